/-! THE REFERENCE: order -/
theorem yj_cnAS : ∀ np : Nat, np < 11 → yj_cn (fun j => (2 ^ np - 1).testBit j) 10 = np := by decide +kernel
theorem yj_cnA {np : Nat} (h : np ≤ 10) : yj_cn (fun j => (2 ^ np - 1).testBit j) 10 = np := yj_cnAS np (Nat.lt_succ_of_le h)
def gw_X9_order_68 (np : Nat) (q4 : Nat) : Nat → Nat → (Nat → Nat → Int32) → (Nat → Nat → Int32)
  | 0, t68, Iw68 => Iw68
  | r68 + 1, t68, Iw68 => if (f_X9_isIn (nI q4) (nI t68)) = 0 then gw_X9_order_68 np q4 r68 (t68 + 1) Iw68 else if (Iw68 68 q4) ≤ ((Iw68 68 (yj_bh q4 t68)) + (f_X9_upsetBy Iw68 np t68 (nI (yj_bh q4 t68)))) then gw_X9_order_68 np q4 r68 (t68 + 1) (z_up Iw68 68 q4 (Iw68 68 q4)) else gw_X9_order_68 np q4 r68 (t68 + 1) (z_up Iw68 68 q4 ((Iw68 68 (yj_bh q4 t68)) + (f_X9_upsetBy Iw68 np t68 (nI (yj_bh q4 t68)))))
theorem gi_gw_X9_order_68 {np : Nat} {q4 : Nat} : ∀ (r68 t68 : Nat) (Iw68 : (Nat → Nat → Int32)), z_N np Iw68 → z_N np (gw_X9_order_68 np q4 r68 t68 Iw68)
  | 0, t68, Iw68, h => h
  | r68 + 1, t68, Iw68, h => by
    unfold gw_X9_order_68
    (repeat' split) <;> first | exact h | exact gi_gw_X9_order_68 r68 (t68 + 1) _ (h) | exact gi_gw_X9_order_68 r68 (t68 + 1) _ (z_Nu h (by decide) _ _)
def gw_X9_order_50 (np : Nat) : Nat → Nat → (Nat → Nat → Int32) → (Nat → Nat → Int32)
  | 0, t50, Iw50 => Iw50
  | r50 + 1, t50, Iw50 => gw_X9_order_50 np r50 (t50 + 1) (gw_X9_order_68 np t50 np 0 (z_up Iw50 68 t50 1000000))
theorem gi_gw_X9_order_50 {np : Nat} : ∀ (r50 t50 : Nat) (Iw50 : (Nat → Nat → Int32)), z_N np Iw50 → z_N np (gw_X9_order_50 np r50 t50 Iw50)
  | 0, t50, Iw50, h => h
  | r50 + 1, t50, Iw50, h => by
    unfold gw_X9_order_50
    (repeat' split) <;> first | exact h | exact gi_gw_X9_order_50 r50 (t50 + 1) _ (h) | exact gi_gw_X9_order_50 r50 (t50 + 1) _ (gi_gw_X9_order_68 _ _ _ (z_Nu h (by decide) _ _))
def f_X9_order (I : Nat → Nat → Int32) (L : Nat → Nat → Int64) (np : Nat) (sh : Int32) (k : Int32) : Int32 := if (f_X9_rowIs I sh 0) = (-1) then (-1) else if (-1) ≤ k then if 0 ≤ (f_X9_rowIs I sh 0) then if 0 ≤ k then (yj_oA np (gw_X9_order_50 np (2 ^ np - 1) 1 (m_X9_takesResults I L np sh.toNatClampNeg)) k np 0 (2 ^ np - 1) (-2)) else ((gw_X9_order_50 np (2 ^ np - 1) 1 (m_X9_takesResults I L np sh.toNatClampNeg)) 68 (2 ^ np - 1)) else (f_X9_rowIs I sh 0) else (-1)
def m_X9_order (I : Nat → Nat → Int32) (L : Nat → Nat → Int64) (np : Nat) (sh : Int32) (k : Int32) : Nat → Nat → Int32 := if (f_X9_rowIs I sh 0) = (-1) then I else if (-1) ≤ k then if 0 ≤ (f_X9_rowIs I sh 0) then if 0 ≤ k then (gw_X9_order_50 np (2 ^ np - 1) 1 (m_X9_takesResults I L np sh.toNatClampNeg)) else (gw_X9_order_50 np (2 ^ np - 1) 1 (m_X9_takesResults I L np sh.toNatClampNeg)) else I else I
set_option maxHeartbeats 1000000 in
set_option maxRecDepth 100000 in
theorem c_X9_order (d : Nat) (hd : 57 ≤ d) (b : Bool) (I : Nat → Nat → Int32) (L : Nat → Nat → Int64) (np : Nat) (hn10 : np ≤ 10) (hN : z_N np I) (sh : Int32) (k : Int32) (hT : 0 ≤ f_X9_rowIs I sh 0 → yj_oH np (gw_X9_order_50 np (2 ^ np - 1) 1 (m_X9_takesResults I L np sh.toNatClampNeg))) : z_CT zm_X9_order d [.ref 54, .int sh, .int k] SH (I, L, z_R b) 0 0 (z_ret (some (.int (f_X9_order I L np sh k))) ((m_X9_order I L np sh k), L, z_R b)) := by
  refine z_enter (by decide +kernel) (Nat.le_of_ble_eq_true rfl) ?_
  have hentry : PW zm_X9_order d 0 [(0, .ref 54), (1, .int sh), (2, .int k)] [] SH (I, L, z_R b) 0 0 (z_ret (some (.int (f_X9_order I L np sh k))) ((m_X9_order I L np sh k), L, z_R b)) := by
    refine p_aload_n (z_dec zd_X9_order 0 rfl) rfl 0 rfl (n := 1) rfl ?_
    refine p_iload_n (z_dec zd_X9_order 1 rfl) rfl 1 rfl (n := 2) rfl ?_
    refine p_iconst (z_dec zd_X9_order 2 rfl) (v := 0) (by decide) (n := 3) rfl ?_
    refine q_callV (As := [.int sh, .int 0]) (rest := []) (z_dec zd_X9_order 3 rfl) zk_X9_233 zv_X9_rowIs (c_X9_rowIs (d - 1) (by omega) b I L sh 0) rfl ⟨_, _, rfl⟩ rfl rfl (Nat.le_of_ble_eq_true rfl) (by omega) (n := 6) rfl ?_
    show PW zm_X9_order d 6 [(0, .ref 54), (1, .int sh), (2, .int k)] [.int (f_X9_rowIs I sh 0)] SH (I, L, z_R b) 0 0 _
    refine p_iconst (z_dec zd_X9_order 4 rfl) (v := (-1)) (by decide) (n := 7) rfl ?_
    refine p_icmp_eq (z_dec zd_X9_order 5 rfl) (t := 15) (by decide) (n := 10) rfl (fun h7 => ?_) (fun h7 => ?_)
    · refine p_iconst (z_dec zd_X9_order 9 rfl) (v := (-1)) (by decide) (n := 16) rfl ?_
      exact p_iret (z_dec zd_X9_order 10 rfl) rfl ⟨(by unfold f_X9_order; rw [if_pos h7]), rfl, (z_3 (by unfold m_X9_order; rw [if_pos h7]) rfl)⟩
    · refine p_iload_n (z_dec zd_X9_order 6 rfl) rfl 2 rfl (n := 11) rfl ?_
      refine p_iconst (z_dec zd_X9_order 7 rfl) (v := (-1)) (by decide) (n := 12) rfl ?_
      refine p_icmp_ge (z_dec zd_X9_order 8 rfl) (t := 17) (by decide) (n := 15) rfl (fun h12 => ?_) (fun h12 => ?_)
      · refine p_aload_n (z_dec zd_X9_order 11 rfl) rfl 0 rfl (n := 18) rfl ?_
        refine p_iload_n (z_dec zd_X9_order 12 rfl) rfl 1 rfl (n := 19) rfl ?_
        refine p_iconst (z_dec zd_X9_order 13 rfl) (v := 0) (by decide) (n := 20) rfl ?_
        refine q_callV (As := [.int sh, .int 0]) (rest := []) (z_dec zd_X9_order 14 rfl) zk_X9_233 zv_X9_rowIs (c_X9_rowIs (d - 1) (by omega) b I L sh 0) rfl ⟨_, _, rfl⟩ rfl rfl (Nat.le_of_ble_eq_true rfl) (by omega) (n := 23) rfl ?_
        show PW zm_X9_order d 23 [(0, .ref 54), (1, .int sh), (2, .int k)] [.int (f_X9_rowIs I sh 0)] SH (I, L, z_R b) 0 0 _
        refine p_if_ge (z_dec zd_X9_order 15 rfl) (t := 33) (by decide) (n := 26) rfl (fun h23 => ?_) (fun h23 => ?_)
        · have hs := z_rwI h23
          refine p_aload_n (z_dec zd_X9_order 21 rfl) rfl 0 rfl (n := 34) rfl ?_
          refine p_iload_n (z_dec zd_X9_order 22 rfl) rfl 1 rfl (n := 35) rfl ?_
          refine q_callV (As := [.int (nI sh.toNatClampNeg)]) (rest := []) (z_dec zd_X9_order 23 rfl) zk_X9_251 zv_X9_takesResults (c_X9_takesResults (d - 1) (by omega) b I L np hn10 hN sh.toNatClampNeg hs.2) rfl ⟨_, _, rfl⟩ (by simp only [← hs.1]; rfl) rfl (Nat.le_of_ble_eq_true rfl) (by omega) (n := 38) rfl ?_
          show PW zm_X9_order d 38 [(0, .ref 54), (1, .int sh), (2, .int k)] [] SH ((m_X9_takesResults I L np sh.toNatClampNeg), L, z_R b) 0 0 _
          have hP38 : z_N np ((m_X9_takesResults I L np sh.toNatClampNeg)) := (z_NtR hN)
          have ha := (yq_all hn10).2
          refine p_iconst (z_dec zd_X9_order 24 rfl) (v := 1) (by decide) (n := 39) rfl ?_
          refine p_aload_n (z_dec zd_X9_order 25 rfl) rfl 0 rfl (n := 40) rfl ?_
          refine q_getI (z_dec zd_X9_order 26 rfl) zf_X9_93 (by decide) rfl (v := (nI np)) hP38 (n := 43) rfl ?_
          refine p_ishl (z_dec zd_X9_order 27 rfl) (n := 44) rfl ?_
          refine p_iconst (z_dec zd_X9_order 28 rfl) (v := 1) (by decide) (n := 45) rfl ?_
          refine p_isub (z_dec zd_X9_order 29 rfl) (n := 46) rfl ?_
          refine z_lv rfl (show _ = [.int (nI (2 ^ np - 1))] from (by rw [(yq_all hn10).1])) rfl ?_
          refine p_istore_n (z_dec zd_X9_order 30 rfl) rfl (lv2 := [(3, .int (nI (2 ^ np - 1))), (0, .ref 54), (1, .int sh), (2, .int k)]) (by decide) rfl (n := 47) rfl ?_
          refine p_iconst (z_dec zd_X9_order 31 rfl) (v := 1) (by decide) (n := 48) rfl ?_
          refine p_istore (z_dec zd_X9_order 32 rfl) (lv2 := [(4, .int 1), (3, .int (nI (2 ^ np - 1))), (0, .ref 54), (1, .int sh), (2, .int k)]) (by decide) rfl (n := 50) rfl ?_
          have hL50 : ∀ (r50 t50 : Nat) (Iw50 : (Nat → Nat → Int32)), t50 + r50 = (2 ^ np - 1) + 1 → z_N np Iw50 → PW zm_X9_order d 159 [(3, .int (nI (2 ^ np - 1))), (0, .ref 54), (1, .int sh), (2, .int k)] [] SH ((gw_X9_order_50 np r50 t50 Iw50), L, z_R b) 0 0 (z_ret (some (.int (f_X9_order I L np sh k))) ((m_X9_order I L np sh k), L, z_R b)) → PW zm_X9_order d 50 [(4, .int (nI t50)), (3, .int (nI (2 ^ np - 1))), (0, .ref 54), (1, .int sh), (2, .int k)] [] SH (Iw50, L, z_R b) 0 0 (z_ret (some (.int (f_X9_order I L np sh k))) ((m_X9_order I L np sh k), L, z_R b)) := by
            intro r50
            induction r50 with
            | zero =>
              intro t50 Iw50 ht50 hlo hk50
              refine p_iload (z_dec zd_X9_order 33 rfl) 0 rfl (n := 52) rfl ?_
              refine p_iload_n (z_dec zd_X9_order 34 rfl) rfl 1 rfl (n := 53) rfl ?_
              refine p_icmp_gt (z_dec zd_X9_order 35 rfl) (t := 159) (by decide) (n := 56) rfl (fun h53 => ?_) (fun h53 => ?_)
              · refine z_sub (lv' := [(3, .int (nI (2 ^ np - 1))), (0, .ref 54), (1, .int sh), (2, .int k)]) [1, 2, 3, 4] rfl ?_
                rw [show (gw_X9_order_50 np 0 t50 Iw50) = Iw50 from by rfl] at hk50
                exact hk50
              · exact absurd (z_nlt (a := 2 ^ np - 1) (b := t50) h53) (by omega)
            | succ r50 ih50 =>
              intro t50 Iw50 ht50 hlo hk50
              refine p_iload (z_dec zd_X9_order 33 rfl) 0 rfl (n := 52) rfl ?_
              refine p_iload_n (z_dec zd_X9_order 34 rfl) rfl 1 rfl (n := 53) rfl ?_
              refine p_icmp_gt (z_dec zd_X9_order 35 rfl) (t := 159) (by decide) (n := 56) rfl (fun h53 => ?_) (fun h53 => ?_)
              · exact absurd (z_lt (a := 2 ^ np - 1) (b := t50) h53) (by omega)
              · have hx50 : t50 < (2 ^ np - 1) + 1 := by omega
                refine p_aload_n (z_dec zd_X9_order 36 rfl) rfl 2 rfl (n := 57) rfl ?_
                refine q_getR (z_dec zd_X9_order 37 rfl) zf_X9_49 (i := 68) rfl rfl (n := 60) rfl ?_
                refine p_iload (z_dec zd_X9_order 38 rfl) 0 rfl (n := 62) rfl ?_
                refine p_ldc (z_dec zd_X9_order 39 rfl) zq_X9_250 (n := 64) rfl ?_
                refine q_iast (z_dec zd_X9_order 40 rfl) rfl (by decide) (t50) rfl (by omega) (n := 65) rfl ?_
                have hP65 : z_N np ((z_up Iw50 68 t50 1000000)) := z_Nu hlo (by decide) _ _
                refine p_iconst (z_dec zd_X9_order 41 rfl) (v := 0) (by decide) (n := 66) rfl ?_
                refine p_istore (z_dec zd_X9_order 42 rfl) (lv2 := [(5, .int 0), (4, .int (nI t50)), (3, .int (nI (2 ^ np - 1))), (0, .ref 54), (1, .int sh), (2, .int k)]) (by decide) rfl (n := 68) rfl ?_
                have hL68 : ∀ (r68 t68 : Nat) (Iw68 : (Nat → Nat → Int32)), t68 + r68 = np → z_N np Iw68 → PW zm_X9_order d 153 [(4, .int (nI t50)), (3, .int (nI (2 ^ np - 1))), (0, .ref 54), (1, .int sh), (2, .int k)] [] SH ((gw_X9_order_68 np t50 r68 t68 Iw68), L, z_R b) 0 0 (z_ret (some (.int (f_X9_order I L np sh k))) ((m_X9_order I L np sh k), L, z_R b)) → PW zm_X9_order d 68 [(5, .int (nI t68)), (4, .int (nI t50)), (3, .int (nI (2 ^ np - 1))), (0, .ref 54), (1, .int sh), (2, .int k)] [] SH (Iw68, L, z_R b) 0 0 (z_ret (some (.int (f_X9_order I L np sh k))) ((m_X9_order I L np sh k), L, z_R b)) := by
                  intro r68
                  induction r68 with
                  | zero =>
                    intro t68 Iw68 ht68 hlo hk68
                    refine p_iload (z_dec zd_X9_order 43 rfl) 0 rfl (n := 70) rfl ?_
                    refine p_aload_n (z_dec zd_X9_order 44 rfl) rfl 3 rfl (n := 71) rfl ?_
                    refine q_getI (z_dec zd_X9_order 45 rfl) zf_X9_93 (by decide) rfl (v := (nI np)) hlo (n := 74) rfl ?_
                    refine p_icmp_ge (z_dec zd_X9_order 46 rfl) (t := 153) (by decide) (n := 77) rfl (fun h74 => ?_) (fun h74 => ?_)
                    · refine z_sub (lv' := [(4, .int (nI t50)), (3, .int (nI (2 ^ np - 1))), (0, .ref 54), (1, .int sh), (2, .int k)]) [1, 2, 3, 4, 5] rfl ?_
                      rw [show (gw_X9_order_68 np t50 0 t68 Iw68) = Iw68 from by rfl] at hk68
                      exact hk68
                    · exact absurd (z_nge (a := np) h74) (by omega)
                  | succ r68 ih68 =>
                    intro t68 Iw68 ht68 hlo hk68
                    refine p_iload (z_dec zd_X9_order 43 rfl) 0 rfl (n := 70) rfl ?_
                    refine p_aload_n (z_dec zd_X9_order 44 rfl) rfl 3 rfl (n := 71) rfl ?_
                    refine q_getI (z_dec zd_X9_order 45 rfl) zf_X9_93 (by decide) rfl (v := (nI np)) hlo (n := 74) rfl ?_
                    refine p_icmp_ge (z_dec zd_X9_order 46 rfl) (t := 153) (by decide) (n := 77) rfl (fun h74 => ?_) (fun h74 => ?_)
                    · exact absurd (z_ge (a := np) h74) (by omega)
                    · have hx68 : t68 < np := by omega
                      refine p_iload (z_dec zd_X9_order 47 rfl) 1 rfl (n := 79) rfl ?_
                      refine p_iload (z_dec zd_X9_order 48 rfl) 0 rfl (n := 81) rfl ?_
                      refine q_callS (As := [.int (nI t50), .int (nI t68)]) (rest := []) (z_dec zd_X9_order 49 rfl) zk_X9_216 zs_X9_isIn (c_X9_isIn (d - 1) (by omega) b Iw68 L (nI t50) (nI t68)) rfl rfl (Nat.le_of_ble_eq_true rfl) (by omega) (n := 84) rfl ?_
                      show PW zm_X9_order d 84 [(5, .int (nI t68)), (4, .int (nI t50)), (3, .int (nI (2 ^ np - 1))), (0, .ref 54), (1, .int sh), (2, .int k)] [.int (f_X9_isIn (nI t50) (nI t68))] SH (Iw68, L, z_R b) 0 0 _
                      refine p_if_eq (z_dec zd_X9_order 50 rfl) (t := 147) (by decide) (n := 87) rfl (fun h84 => ?_) (fun h84 => ?_)
                      · refine p_iinc (z_dec zd_X9_order 85 rfl) 0 rfl (v := (nI (t68 + 1))) (nI_1 _) (lv2 := [(5, .int (nI (t68 + 1))), (4, .int (nI t50)), (3, .int (nI (2 ^ np - 1))), (0, .ref 54), (1, .int sh), (2, .int k)]) (by decide) rfl (n := 150) rfl ?_
                        refine p_goto (z_dec zd_X9_order 86 rfl) (t := 68) (by decide) ?_
                        rw [show gw_X9_order_68 np t50 (r68 + 1) t68 Iw68 = gw_X9_order_68 np t50 r68 (t68 + 1) Iw68 from by (conv => lhs; unfold gw_X9_order_68); rw [if_pos h84]] at hk68
                        exact ih68 (t68 + 1) Iw68 (by omega) hlo hk68
                      · refine p_iload (z_dec zd_X9_order 51 rfl) 1 rfl (n := 89) rfl ?_
                        refine p_iconst (z_dec zd_X9_order 52 rfl) (v := 1) (by decide) (n := 90) rfl ?_
                        refine p_iload (z_dec zd_X9_order 53 rfl) 0 rfl (n := 92) rfl ?_
                        refine p_ishl (z_dec zd_X9_order 54 rfl) (n := 93) rfl ?_
                        refine p_iconst (z_dec zd_X9_order 55 rfl) (v := (-1)) (by decide) (n := 94) rfl ?_
                        refine p_ixor (z_dec zd_X9_order 56 rfl) (n := 95) rfl ?_
                        refine p_iand (z_dec zd_X9_order 57 rfl) (n := 96) rfl ?_
                        refine z_lv rfl (show _ = [.int (nI (yj_bh t50 t68))] from (by rw [← (yj_bhE (left := t50) (p := t68) (by omega)).1])) rfl ?_
                        refine p_istore (z_dec zd_X9_order 58 rfl) (lv2 := [(6, .int (nI (yj_bh t50 t68))), (5, .int (nI t68)), (4, .int (nI t50)), (3, .int (nI (2 ^ np - 1))), (0, .ref 54), (1, .int sh), (2, .int k)]) (by decide) rfl (n := 98) rfl ?_
                        have hb98 := (yj_bhE (left := t50) (p := t68) (by omega)).2
                        refine p_aload_n (z_dec zd_X9_order 59 rfl) rfl 4 rfl (n := 99) rfl ?_
                        refine q_getR (z_dec zd_X9_order 60 rfl) zf_X9_49 (i := 68) rfl rfl (n := 102) rfl ?_
                        refine p_iload (z_dec zd_X9_order 61 rfl) 0 rfl (n := 104) rfl ?_
                        refine q_iald (z_dec zd_X9_order 62 rfl) rfl (by decide) ((yj_bh t50 t68)) rfl (by omega) (v := (Iw68 68 (yj_bh t50 t68))) rfl (n := 105) rfl ?_
                        refine p_aload_n (z_dec zd_X9_order 63 rfl) rfl 4 rfl (n := 106) rfl ?_
                        refine p_iload (z_dec zd_X9_order 64 rfl) 1 rfl (n := 108) rfl ?_
                        refine p_iload (z_dec zd_X9_order 65 rfl) 0 rfl (n := 110) rfl ?_
                        refine q_callV (As := [.int (nI t68), .int (nI (yj_bh t50 t68))]) (rest := [.int (Iw68 68 (yj_bh t50 t68))]) (z_dec zd_X9_order 66 rfl) zk_X9_255 zv_X9_upsetBy (c_X9_upsetBy (d - 1) (by omega) b Iw68 L np hlo hn10 t68 (by omega) (nI (yj_bh t50 t68))) rfl ⟨_, _, rfl⟩ rfl rfl (Nat.le_of_ble_eq_true rfl) (by omega) (n := 113) rfl ?_
                        show PW zm_X9_order d 113 [(6, .int (nI (yj_bh t50 t68))), (5, .int (nI t68)), (4, .int (nI t50)), (3, .int (nI (2 ^ np - 1))), (0, .ref 54), (1, .int sh), (2, .int k)] [.int (f_X9_upsetBy Iw68 np t68 (nI (yj_bh t50 t68))), .int (Iw68 68 (yj_bh t50 t68))] SH (Iw68, L, z_R b) 0 0 _
                        refine p_iadd (z_dec zd_X9_order 67 rfl) (n := 114) rfl ?_
                        refine p_istore (z_dec zd_X9_order 68 rfl) (lv2 := [(7, .int ((Iw68 68 (yj_bh t50 t68)) + (f_X9_upsetBy Iw68 np t68 (nI (yj_bh t50 t68))))), (6, .int (nI (yj_bh t50 t68))), (5, .int (nI t68)), (4, .int (nI t50)), (3, .int (nI (2 ^ np - 1))), (0, .ref 54), (1, .int sh), (2, .int k)]) (by decide) rfl (n := 116) rfl ?_
                        refine p_aload_n (z_dec zd_X9_order 69 rfl) rfl 5 rfl (n := 117) rfl ?_
                        refine q_getR (z_dec zd_X9_order 70 rfl) zf_X9_49 (i := 68) rfl rfl (n := 120) rfl ?_
                        refine p_iload (z_dec zd_X9_order 71 rfl) 3 rfl (n := 122) rfl ?_
                        refine p_iload (z_dec zd_X9_order 72 rfl) 0 rfl (n := 124) rfl ?_
                        refine p_aload_n (z_dec zd_X9_order 73 rfl) rfl 5 rfl (n := 125) rfl ?_
                        refine q_getR (z_dec zd_X9_order 74 rfl) zf_X9_49 (i := 68) rfl rfl (n := 128) rfl ?_
                        refine p_iload (z_dec zd_X9_order 75 rfl) 3 rfl (n := 130) rfl ?_
                        refine q_iald (z_dec zd_X9_order 76 rfl) rfl (by decide) (t50) rfl (by omega) (v := (Iw68 68 t50)) rfl (n := 131) rfl ?_
                        refine p_icmp_ge (z_dec zd_X9_order 77 rfl) (t := 139) (by decide) (n := 134) rfl (fun h131 => ?_) (fun h131 => ?_)
                        · refine p_aload_n (z_dec zd_X9_order 80 rfl) rfl 5 rfl (n := 140) rfl ?_
                          refine q_getR (z_dec zd_X9_order 81 rfl) zf_X9_49 (i := 68) rfl rfl (n := 143) rfl ?_
                          refine p_iload (z_dec zd_X9_order 82 rfl) 3 rfl (n := 145) rfl ?_
                          refine q_iald (z_dec zd_X9_order 83 rfl) rfl (by decide) (t50) rfl (by omega) (v := (Iw68 68 t50)) rfl (n := 146) rfl ?_
                          refine q_iast (z_dec zd_X9_order 84 rfl) rfl (by decide) (t50) rfl (by omega) (n := 147) rfl ?_
                          refine p_iinc (z_dec zd_X9_order 85 rfl) 2 rfl (v := (nI (t68 + 1))) (nI_1 _) (lv2 := [(5, .int (nI (t68 + 1))), (7, .int ((Iw68 68 (yj_bh t50 t68)) + (f_X9_upsetBy Iw68 np t68 (nI (yj_bh t50 t68))))), (6, .int (nI (yj_bh t50 t68))), (4, .int (nI t50)), (3, .int (nI (2 ^ np - 1))), (0, .ref 54), (1, .int sh), (2, .int k)]) (by decide) rfl (n := 150) rfl ?_
                          refine p_goto (z_dec zd_X9_order 86 rfl) (t := 68) (by decide) ?_
                          refine z_sub (lv' := [(5, .int (nI (t68 + 1))), (4, .int (nI t50)), (3, .int (nI (2 ^ np - 1))), (0, .ref 54), (1, .int sh), (2, .int k)]) [0, 3, 4, 5, 6, 7] rfl ?_
                          rw [show gw_X9_order_68 np t50 (r68 + 1) t68 Iw68 = gw_X9_order_68 np t50 r68 (t68 + 1) (z_up Iw68 68 t50 (Iw68 68 t50)) from by (conv => lhs; unfold gw_X9_order_68); rw [if_neg h84, if_pos h131]] at hk68
                          exact ih68 (t68 + 1) (z_up Iw68 68 t50 (Iw68 68 t50)) (by omega) (z_Nu hlo (by decide) _ _) hk68
                        · refine p_iload (z_dec zd_X9_order 78 rfl) 0 rfl (n := 136) rfl ?_
                          refine p_goto (z_dec zd_X9_order 79 rfl) (t := 146) (by decide) ?_
                          refine q_iast (z_dec zd_X9_order 84 rfl) rfl (by decide) (t50) rfl (by omega) (n := 147) rfl ?_
                          refine p_iinc (z_dec zd_X9_order 85 rfl) 2 rfl (v := (nI (t68 + 1))) (nI_1 _) (lv2 := [(5, .int (nI (t68 + 1))), (7, .int ((Iw68 68 (yj_bh t50 t68)) + (f_X9_upsetBy Iw68 np t68 (nI (yj_bh t50 t68))))), (6, .int (nI (yj_bh t50 t68))), (4, .int (nI t50)), (3, .int (nI (2 ^ np - 1))), (0, .ref 54), (1, .int sh), (2, .int k)]) (by decide) rfl (n := 150) rfl ?_
                          refine p_goto (z_dec zd_X9_order 86 rfl) (t := 68) (by decide) ?_
                          refine z_sub (lv' := [(5, .int (nI (t68 + 1))), (4, .int (nI t50)), (3, .int (nI (2 ^ np - 1))), (0, .ref 54), (1, .int sh), (2, .int k)]) [0, 3, 4, 5, 6, 7] rfl ?_
                          rw [show gw_X9_order_68 np t50 (r68 + 1) t68 Iw68 = gw_X9_order_68 np t50 r68 (t68 + 1) (z_up Iw68 68 t50 ((Iw68 68 (yj_bh t50 t68)) + (f_X9_upsetBy Iw68 np t68 (nI (yj_bh t50 t68))))) from by (conv => lhs; unfold gw_X9_order_68); rw [if_neg h84, if_neg h131]] at hk68
                          exact ih68 (t68 + 1) (z_up Iw68 68 t50 ((Iw68 68 (yj_bh t50 t68)) + (f_X9_upsetBy Iw68 np t68 (nI (yj_bh t50 t68))))) (by omega) (z_Nu hlo (by decide) _ _) hk68
                refine hL68 np 0 (z_up Iw50 68 t50 1000000) (by omega) hP65 ?_
                refine p_iinc (z_dec zd_X9_order 87 rfl) 0 rfl (v := (nI (t50 + 1))) (nI_1 _) (lv2 := [(4, .int (nI (t50 + 1))), (3, .int (nI (2 ^ np - 1))), (0, .ref 54), (1, .int sh), (2, .int k)]) (by decide) rfl (n := 156) rfl ?_
                refine p_goto (z_dec zd_X9_order 88 rfl) (t := 50) (by decide) ?_
                rw [show gw_X9_order_50 np (r50 + 1) t50 Iw50 = gw_X9_order_50 np r50 (t50 + 1) (gw_X9_order_68 np t50 np 0 (z_up Iw50 68 t50 1000000)) from by rfl] at hk50
                exact ih50 (t50 + 1) (gw_X9_order_68 np t50 np 0 (z_up Iw50 68 t50 1000000)) (by omega) (gi_gw_X9_order_68 _ _ _ hP65) hk50
          refine hL50 (2 ^ np - 1) 1 (m_X9_takesResults I L np sh.toNatClampNeg) (by omega) hP38 ?_
          refine p_iload_n (z_dec zd_X9_order 89 rfl) rfl 3 rfl (n := 160) rfl ?_
          refine p_if_ge (z_dec zd_X9_order 90 rfl) (t := 170) (by decide) (n := 163) rfl (fun h160 => ?_) (fun h160 => ?_)
          · refine p_iload_n (z_dec zd_X9_order 96 rfl) rfl 0 rfl (n := 171) rfl ?_
            refine p_istore (z_dec zd_X9_order 97 rfl) (lv2 := [(4, .int (nI (2 ^ np - 1))), (3, .int (nI (2 ^ np - 1))), (0, .ref 54), (1, .int sh), (2, .int k)]) (by decide) rfl (n := 173) rfl ?_
            refine p_bipush (z_dec zd_X9_order 98 rfl) (v := (-2)) (by decide) (n := 175) rfl ?_
            refine p_istore (z_dec zd_X9_order 99 rfl) (lv2 := [(5, .int (-2)), (4, .int (nI (2 ^ np - 1))), (3, .int (nI (2 ^ np - 1))), (0, .ref 54), (1, .int sh), (2, .int k)]) (by decide) rfl (n := 177) rfl ?_
            refine p_iconst (z_dec zd_X9_order 100 rfl) (v := 0) (by decide) (n := 178) rfl ?_
            refine p_istore (z_dec zd_X9_order 101 rfl) (lv2 := [(6, .int 0), (5, .int (-2)), (4, .int (nI (2 ^ np - 1))), (3, .int (nI (2 ^ np - 1))), (0, .ref 54), (1, .int sh), (2, .int k)]) (by decide) rfl (n := 180) rfl ?_
            refine z_sub (lv' := [(6, .int 0), (4, .int (nI (2 ^ np - 1))), (5, .int (-2)), (3, .int (nI (2 ^ np - 1))), (0, .ref 54), (1, .int sh), (2, .int k)]) [0, 2, 1, 3, 4, 5, 6] rfl ?_
            refine z_lv (lv' := [(6, .int (nI 0)), (4, .int (nI (2 ^ np - 1))), (5, .int (-2)), (3, .int (nI (2 ^ np - 1))), (0, .ref 54), (1, .int sh), (2, .int k)]) rfl rfl rfl ?_
            exact (by have q := (yj_orT d hd b (gw_X9_order_50 np (2 ^ np - 1) 1 (m_X9_takesResults I L np sh.toNatClampNeg)) L np (gi_gw_X9_order_50 _ _ _ hP38) hn10 (hT h23) sh k (nI (2 ^ np - 1)) np 0 (2 ^ np - 1) (-2) (by omega) ha (by have := Nat.one_le_two_pow (n := np); omega) (yj_cnA hn10)); (rw [show f_X9_order I L np sh k = _ from by unfold f_X9_order; rw [if_neg h7, if_pos h12, if_pos h23, if_pos h160]]); (rw [show m_X9_order I L np sh k = _ from by unfold m_X9_order; rw [if_neg h7, if_pos h12, if_pos h23, if_pos h160]]); exact q)
          · refine p_aload_n (z_dec zd_X9_order 91 rfl) rfl 1 rfl (n := 164) rfl ?_
            refine q_getR (z_dec zd_X9_order 92 rfl) zf_X9_49 (i := 68) rfl rfl (n := 167) rfl ?_
            refine p_iload_n (z_dec zd_X9_order 93 rfl) rfl 0 rfl (n := 168) rfl ?_
            refine q_iald (z_dec zd_X9_order 94 rfl) rfl (by decide) ((2 ^ np - 1)) rfl (by omega) (v := ((gw_X9_order_50 np (2 ^ np - 1) 1 (m_X9_takesResults I L np sh.toNatClampNeg)) 68 (2 ^ np - 1))) rfl (n := 169) rfl ?_
            exact p_iret (z_dec zd_X9_order 95 rfl) rfl ⟨(by unfold f_X9_order; rw [if_neg h7, if_pos h12, if_pos h23, if_neg h160]), rfl, (z_3 (by unfold m_X9_order; rw [if_neg h7, if_pos h12, if_pos h23, if_neg h160]) rfl)⟩
        · refine p_aload_n (z_dec zd_X9_order 16 rfl) rfl 0 rfl (n := 27) rfl ?_
          refine p_iload_n (z_dec zd_X9_order 17 rfl) rfl 1 rfl (n := 28) rfl ?_
          refine p_iconst (z_dec zd_X9_order 18 rfl) (v := 0) (by decide) (n := 29) rfl ?_
          refine q_callV (As := [.int sh, .int 0]) (rest := []) (z_dec zd_X9_order 19 rfl) zk_X9_233 zv_X9_rowIs (c_X9_rowIs (d - 1) (by omega) b I L sh 0) rfl ⟨_, _, rfl⟩ rfl rfl (Nat.le_of_ble_eq_true rfl) (by omega) (n := 32) rfl ?_
          show PW zm_X9_order d 32 [(0, .ref 54), (1, .int sh), (2, .int k)] [.int (f_X9_rowIs I sh 0)] SH (I, L, z_R b) 0 0 _
          exact p_iret (z_dec zd_X9_order 20 rfl) rfl ⟨(by unfold f_X9_order; rw [if_neg h7, if_pos h12, if_neg h23]), rfl, (z_3 (by unfold m_X9_order; rw [if_neg h7, if_pos h12, if_neg h23]) rfl)⟩
      · refine p_iconst (z_dec zd_X9_order 9 rfl) (v := (-1)) (by decide) (n := 16) rfl ?_
        exact p_iret (z_dec zd_X9_order 10 rfl) rfl ⟨(by unfold f_X9_order; rw [if_neg h7, if_neg h12]), rfl, (z_3 (by unfold m_X9_order; rw [if_neg h7, if_neg h12]) rfl)⟩
  exact hentry
