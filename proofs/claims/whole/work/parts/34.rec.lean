theorem z_lev {x : Int32} {lv : Nat} (hlv : lv ≤ 5) (h : f_X1_levelOf x = nI lv) : ¬ x = -1 := by
  intro q
  rw [q] at h
  have e : f_X1_levelOf (-1) = -1 := by decide
  rw [e] at h
  have key : ∀ k : Fin 6, ¬ (-1 : Int32) = nI k.val := by decide
  exact key ⟨lv, by omega⟩ h
/-- rounds that a reading of a level, of an operand wants at most -/
def z_mL (lv op : Nat) : Nat := 8 * (7 - op) + (6 - lv)
def z_mO (op : Nat) : Nat := 8 * (7 - op)
def gx_X1_readLevel_26 (b : Bool) (FL : Nat → Nat → (Nat → Nat → Int32) → Int32 × (Nat → Nat → Int32)) (lv : Nat) (op : Nat) : Nat → Nat → (Nat → Nat → Int32) → Int32 × (Nat → Nat → Int32)
  | 0, t26, Iv => (1, Iv)
  | r26 + 1, t26, Iv => if (f_X1_levelOf (f_X1_next Iv ((Iv 13 1).toNatClampNeg) ((Iv 13 2).toNatClampNeg))) = (nI lv) then if (FL (lv + 1) op (z_up Iv 13 2 ((Iv 13 2) + 1))).1 = 0 then (0, (FL (lv + 1) op (z_up Iv 13 2 ((Iv 13 2) + 1))).2) else if (nI lv) = 2 then (1, (m_X1_write b ((FL (lv + 1) op (z_up Iv 13 2 ((Iv 13 2) + 1))).2) (((FL (lv + 1) op (z_up Iv 13 2 ((Iv 13 2) + 1))).2 13 6).toNatClampNeg) (-(f_X1_next Iv ((Iv 13 1).toNatClampNeg) ((Iv 13 2).toNatClampNeg))))) else gx_X1_readLevel_26 b FL lv op r26 (t26 + 1) (m_X1_write b ((FL (lv + 1) op (z_up Iv 13 2 ((Iv 13 2) + 1))).2) (((FL (lv + 1) op (z_up Iv 13 2 ((Iv 13 2) + 1))).2 13 6).toNatClampNeg) (-(f_X1_next Iv ((Iv 13 1).toNatClampNeg) ((Iv 13 2).toNatClampNeg)))) else (1, Iv)
def f_X1_readLevel (b : Bool) (I : Nat → Nat → Int32) (FL : Nat → Nat → (Nat → Nat → Int32) → Int32 × (Nat → Nat → Int32)) (FO : Nat → (Nat → Nat → Int32) → Int32 × (Nat → Nat → Int32)) (lv : Nat) (op : Nat) : Int32 := if (nI lv) ≤ 4 then if (FL (lv + 1) op I).1 = 0 then 0 else (gx_X1_readLevel_26 b FL lv op 120 0 ((FL (lv + 1) op I).2)).1 else (FO op I).1
def m_X1_readLevel (b : Bool) (I : Nat → Nat → Int32) (FL : Nat → Nat → (Nat → Nat → Int32) → Int32 × (Nat → Nat → Int32)) (FO : Nat → (Nat → Nat → Int32) → Int32 × (Nat → Nat → Int32)) (lv : Nat) (op : Nat) : Nat → Nat → Int32 := if (nI lv) ≤ 4 then if (FL (lv + 1) op I).1 = 0 then (FL (lv + 1) op I).2 else (gx_X1_readLevel_26 b FL lv op 120 0 ((FL (lv + 1) op I).2)).2 else (FO op I).2
set_option maxHeartbeats 4000000 in
set_option maxRecDepth 100000 in
theorem c_X1_readLevel (d : Nat) (hd : 3 ≤ d) (b : Bool) (I : Nat → Nat → Int32) (L : Nat → Nat → Int64) (hP : z_P I) (n : Nat) (FL : Nat → Nat → (Nat → Nat → Int32) → Int32 × (Nat → Nat → Int32)) (FO : Nat → (Nat → Nat → Int32) → Int32 × (Nat → Nat → Int32)) (hFL : ∀ (lv op : Nat) (J : Nat → Nat → Int32), lv ≤ 5 → op ≤ 6 → z_mL lv op < n → z_P J → z_CT zm_X1_readLevel (d - 1) [.ref 13, .int (nI lv), .int (nI op)] SH (J, L, z_R b) 0 0 (z_ret (some (.int (FL lv op J).1)) ((FL lv op J).2, L, z_R b))) (hFO : ∀ (op : Nat) (J : Nat → Nat → Int32), op ≤ 6 → z_mO op < n → z_P J → z_CT zm_X1_readOperand (d - 1) [.ref 13, .int (nI op)] SH (J, L, z_R b) 0 0 (z_ret (some (.int (FO op J).1)) ((FO op J).2, L, z_R b))) (hPL : ∀ (lv op : Nat) (J : Nat → Nat → Int32), lv ≤ 5 → z_P J → z_P (FL lv op J).2) (hPO : ∀ (op : Nat) (J : Nat → Nat → Int32), z_P J → z_P (FO op J).2) (hBO : ∀ (op : Nat) (J : Nat → Nat → Int32), (FO op J).1 = 0 ∨ (FO op J).1 = 1) (lv : Nat) (hlv : lv < 6) (op : Nat) (hop : op < 7) (hn : z_mL lv op < n + 1) : z_CT zm_X1_readLevel d [.ref 13, .int (nI lv), .int (nI op)] SH (I, L, z_R b) 0 0 (z_ret (some (.int (f_X1_readLevel b I FL FO lv op))) ((m_X1_readLevel b I FL FO lv op), L, z_R b)) := by
  refine z_enter (by decide +kernel) (Nat.le_of_ble_eq_true rfl) ?_
  have hentry : PW zm_X1_readLevel d 0 [(0, .ref 13), (1, .int (nI lv)), (2, .int (nI op))] [] SH (I, L, z_R b) 0 0 (z_ret (some (.int (f_X1_readLevel b I FL FO lv op))) ((m_X1_readLevel b I FL FO lv op), L, z_R b)) := by
    refine p_iload_n (z_dec zd_X1_readLevel 0 rfl) rfl 1 rfl (n := 1) rfl ?_
    refine p_iconst (z_dec zd_X1_readLevel 1 rfl) (v := 4) (by decide) (n := 2) rfl ?_
    refine p_icmp_le (z_dec zd_X1_readLevel 2 rfl) (t := 11) (by decide) (n := 5) rfl (fun h2 => ?_) (fun h2 => ?_)
    · have hl4 : lv ≤ 4 := z_ge (b := 4) h2
      unfold z_mL at hn
      refine p_aload_n (z_dec zd_X1_readLevel 7 rfl) rfl 0 rfl (n := 12) rfl ?_
      refine p_iload_n (z_dec zd_X1_readLevel 8 rfl) rfl 1 rfl (n := 13) rfl ?_
      refine p_iconst (z_dec zd_X1_readLevel 9 rfl) (v := 1) (by decide) (n := 14) rfl ?_
      refine p_iadd (z_dec zd_X1_readLevel 10 rfl) (n := 15) rfl ?_
      refine z_lv rfl (show _ = [.int (nI (lv + 1)), .ref 13] from (by rw [nI_1])) rfl ?_
      refine p_iload_n (z_dec zd_X1_readLevel 11 rfl) rfl 2 rfl (n := 16) rfl ?_
      refine q_callV (As := [.int (nI (lv + 1)), .int (nI op)]) (rest := []) (z_dec zd_X1_readLevel 12 rfl) zk_X1_51 zv_X1_readLevel (hFL (lv + 1) op I (by omega) (by omega) (by unfold z_mL at *; omega) hP) rfl ⟨_, _, rfl⟩ rfl rfl (Nat.le_of_ble_eq_true rfl) (by omega) (n := 19) rfl ?_
      show PW zm_X1_readLevel d 19 [(0, .ref 13), (1, .int (nI lv)), (2, .int (nI op))] [.int ((FL (lv + 1) op I).1)] SH ((FL (lv + 1) op I).2, L, z_R b) 0 0 _
      have hP19 : z_P ((FL (lv + 1) op I).2) := hPL _ _ _ (by omega) hP
      refine p_if_ne (z_dec zd_X1_readLevel 13 rfl) (t := 24) (by decide) (n := 22) rfl (fun h19 => ?_) (fun h19 => ?_)
      · refine p_iconst (z_dec zd_X1_readLevel 16 rfl) (v := 0) (by decide) (n := 25) rfl ?_
        refine p_istore_n (z_dec zd_X1_readLevel 17 rfl) rfl (lv2 := [(3, .int 0), (0, .ref 13), (1, .int (nI lv)), (2, .int (nI op))]) (by decide) rfl (n := 26) rfl ?_
        have hL26 : ∀ (r26 t26 : Nat) (Iv : Nat → Nat → Int32), t26 + r26 = 120 → z_P Iv → PW zm_X1_readLevel d 26 [(3, .int (nI t26)), (0, .ref 13), (1, .int (nI lv)), (2, .int (nI op))] [] SH (Iv, L, z_R b) 0 0 (z_ret (some (.int (gx_X1_readLevel_26 b FL lv op r26 t26 Iv).1)) ((gx_X1_readLevel_26 b FL lv op r26 t26 Iv).2, L, z_R b)) := by
          intro r26
          induction r26 with
          | zero =>
            intro t26 Iv ht26 hlo
            refine p_iload_n (z_dec zd_X1_readLevel 18 rfl) rfl 0 rfl (n := 27) rfl ?_
            refine p_bipush (z_dec zd_X1_readLevel 19 rfl) (v := 120) (by decide) (n := 29) rfl ?_
            refine p_icmp_ge (z_dec zd_X1_readLevel 20 rfl) (t := 92) (by decide) (n := 32) rfl (fun h29 => ?_) (fun h29 => ?_)
            · refine p_iconst (z_dec zd_X1_readLevel 55 rfl) (v := 1) (by decide) (n := 93) rfl ?_
              exact p_zret (z_dec zd_X1_readLevel 56 rfl) rfl (Or.inr rfl) ⟨rfl, rfl, (z_3 rfl rfl)⟩
            · exact absurd (z_nge (a := 120) h29) (by omega)
          | succ r26 ih26 =>
            intro t26 Iv ht26 hlo
            refine p_iload_n (z_dec zd_X1_readLevel 18 rfl) rfl 0 rfl (n := 27) rfl ?_
            refine p_bipush (z_dec zd_X1_readLevel 19 rfl) (v := 120) (by decide) (n := 29) rfl ?_
            refine p_icmp_ge (z_dec zd_X1_readLevel 20 rfl) (t := 92) (by decide) (n := 32) rfl (fun h29 => ?_) (fun h29 => ?_)
            · exact absurd (z_ge (a := 120) h29) (by omega)
            · have hx26 : t26 < 120 := by omega
              refine p_aload_n (z_dec zd_X1_readLevel 21 rfl) rfl 1 rfl (n := 33) rfl ?_
              refine q_callV (As := []) (rest := []) (z_dec zd_X1_readLevel 22 rfl) zk_X1_47 zv_X1_next (c_X1_next (d - 1) (by omega) b Iv L ((Iv 13 1).toNatClampNeg) hlo.1.1 hlo.1.2 ((Iv 13 2).toNatClampNeg) hlo.2.1.1 (Nat.le_trans hlo.2.1.2 hlo.1.2)) rfl ⟨_, _, rfl⟩ rfl rfl (Nat.le_of_ble_eq_true rfl) (by omega) (n := 36) rfl ?_
              show PW zm_X1_readLevel d 36 [(3, .int (nI t26)), (0, .ref 13), (1, .int (nI lv)), (2, .int (nI op))] [.int (f_X1_next Iv ((Iv 13 1).toNatClampNeg) ((Iv 13 2).toNatClampNeg))] SH (Iv, L, z_R b) 0 0 _
              refine q_callS (As := [.int (f_X1_next Iv ((Iv 13 1).toNatClampNeg) ((Iv 13 2).toNatClampNeg))]) (rest := []) (z_dec zd_X1_readLevel 23 rfl) zk_X1_63 zs_X1_levelOf (c_X1_levelOf (d - 1) (by omega) b Iv L (f_X1_next Iv ((Iv 13 1).toNatClampNeg) ((Iv 13 2).toNatClampNeg))) rfl rfl (Nat.le_of_ble_eq_true rfl) (by omega) (n := 39) rfl ?_
              show PW zm_X1_readLevel d 39 [(3, .int (nI t26)), (0, .ref 13), (1, .int (nI lv)), (2, .int (nI op))] [.int (f_X1_levelOf (f_X1_next Iv ((Iv 13 1).toNatClampNeg) ((Iv 13 2).toNatClampNeg)))] SH (Iv, L, z_R b) 0 0 _
              refine p_iload_n (z_dec zd_X1_readLevel 24 rfl) rfl 2 rfl (n := 40) rfl ?_
              refine p_icmp_ne (z_dec zd_X1_readLevel 25 rfl) (t := 92) (by decide) (n := 43) rfl (fun h40 => ?_) (fun h40 => ?_)
              · refine p_iconst (z_dec zd_X1_readLevel 55 rfl) (v := 1) (by decide) (n := 93) rfl ?_
                exact p_zret (z_dec zd_X1_readLevel 56 rfl) rfl (Or.inr rfl) ⟨(by (conv => rhs; unfold gx_X1_readLevel_26); rw [if_neg h40]), rfl, (z_3 (by (conv => rhs; unfold gx_X1_readLevel_26); rw [if_neg h40]) rfl)⟩
              · refine p_aload_n (z_dec zd_X1_readLevel 26 rfl) rfl 1 rfl (n := 44) rfl ?_
                refine q_callV (As := []) (rest := []) (z_dec zd_X1_readLevel 27 rfl) zk_X1_47 zv_X1_next (c_X1_next (d - 1) (by omega) b Iv L ((Iv 13 1).toNatClampNeg) hlo.1.1 hlo.1.2 ((Iv 13 2).toNatClampNeg) hlo.2.1.1 (Nat.le_trans hlo.2.1.2 hlo.1.2)) rfl ⟨_, _, rfl⟩ rfl rfl (Nat.le_of_ble_eq_true rfl) (by omega) (n := 47) rfl ?_
                show PW zm_X1_readLevel d 47 [(3, .int (nI t26)), (0, .ref 13), (1, .int (nI lv)), (2, .int (nI op))] [.int (f_X1_next Iv ((Iv 13 1).toNatClampNeg) ((Iv 13 2).toNatClampNeg))] SH (Iv, L, z_R b) 0 0 _
                refine p_istore (z_dec zd_X1_readLevel 28 rfl) (lv2 := [(4, .int (f_X1_next Iv ((Iv 13 1).toNatClampNeg) ((Iv 13 2).toNatClampNeg))), (3, .int (nI t26)), (0, .ref 13), (1, .int (nI lv)), (2, .int (nI op))]) (by decide) rfl (n := 49) rfl ?_
                refine p_aload_n (z_dec zd_X1_readLevel 29 rfl) rfl 2 rfl (n := 50) rfl ?_
                refine p_dup (z_dec zd_X1_readLevel 30 rfl) rfl (n := 51) rfl ?_
                refine q_getI (z_dec zd_X1_readLevel 31 rfl) zf_X1_19 (by decide) rfl (v := (Iv 13 2)) rfl (n := 54) rfl ?_
                refine p_iconst (z_dec zd_X1_readLevel 32 rfl) (v := 1) (by decide) (n := 55) rfl ?_
                refine p_iadd (z_dec zd_X1_readLevel 33 rfl) (n := 56) rfl ?_
                refine q_putI (z_dec zd_X1_readLevel 34 rfl) zp_X1_19 (fun q => by cases q) rfl (n := 59) rfl ?_
                have hP59 : z_P ((z_up Iv 13 2 ((Iv 13 2) + 1))) := z_P_av hlo (z_lev (by omega) h40)
                refine p_aload_n (z_dec zd_X1_readLevel 35 rfl) rfl 2 rfl (n := 60) rfl ?_
                refine p_iload_n (z_dec zd_X1_readLevel 36 rfl) rfl 3 rfl (n := 61) rfl ?_
                refine p_iconst (z_dec zd_X1_readLevel 37 rfl) (v := 1) (by decide) (n := 62) rfl ?_
                refine p_iadd (z_dec zd_X1_readLevel 38 rfl) (n := 63) rfl ?_
                refine z_lv rfl (show _ = [.int (nI (lv + 1)), .ref 13] from (by rw [nI_1])) rfl ?_
                refine p_iload_n (z_dec zd_X1_readLevel 39 rfl) rfl 4 rfl (n := 64) rfl ?_
                refine q_callV (As := [.int (nI (lv + 1)), .int (nI op)]) (rest := []) (z_dec zd_X1_readLevel 40 rfl) zk_X1_51 zv_X1_readLevel (hFL (lv + 1) op (z_up Iv 13 2 ((Iv 13 2) + 1)) (by omega) (by omega) (by unfold z_mL at *; omega) hP59) rfl ⟨_, _, rfl⟩ rfl rfl (Nat.le_of_ble_eq_true rfl) (by omega) (n := 67) rfl ?_
                show PW zm_X1_readLevel d 67 [(4, .int (f_X1_next Iv ((Iv 13 1).toNatClampNeg) ((Iv 13 2).toNatClampNeg))), (3, .int (nI t26)), (0, .ref 13), (1, .int (nI lv)), (2, .int (nI op))] [.int ((FL (lv + 1) op (z_up Iv 13 2 ((Iv 13 2) + 1))).1)] SH ((FL (lv + 1) op (z_up Iv 13 2 ((Iv 13 2) + 1))).2, L, z_R b) 0 0 _
                have hP67 : z_P ((FL (lv + 1) op (z_up Iv 13 2 ((Iv 13 2) + 1))).2) := hPL _ _ _ (by omega) hP59
                refine p_if_ne (z_dec zd_X1_readLevel 41 rfl) (t := 72) (by decide) (n := 70) rfl (fun h67 => ?_) (fun h67 => ?_)
                · refine p_aload_n (z_dec zd_X1_readLevel 44 rfl) rfl 2 rfl (n := 73) rfl ?_
                  refine p_iload (z_dec zd_X1_readLevel 45 rfl) 0 rfl (n := 75) rfl ?_
                  refine p_ineg (z_dec zd_X1_readLevel 46 rfl) (n := 76) rfl ?_
                  refine q_callV (As := [.int (-(f_X1_next Iv ((Iv 13 1).toNatClampNeg) ((Iv 13 2).toNatClampNeg)))]) (rest := []) (z_dec zd_X1_readLevel 47 rfl) zk_X1_55 zv_X1_write (c_X1_write (d - 1) (by omega) b ((FL (lv + 1) op (z_up Iv 13 2 ((Iv 13 2) + 1))).2) L (((FL (lv + 1) op (z_up Iv 13 2 ((Iv 13 2) + 1))).2 13 6).toNatClampNeg) hP67.2.2.1 hP67.2.2.2 (-(f_X1_next Iv ((Iv 13 1).toNatClampNeg) ((Iv 13 2).toNatClampNeg)))) rfl ⟨_, _, rfl⟩ rfl rfl (Nat.le_of_ble_eq_true rfl) (by omega) (n := 79) rfl ?_
                  show PW zm_X1_readLevel d 79 [(4, .int (f_X1_next Iv ((Iv 13 1).toNatClampNeg) ((Iv 13 2).toNatClampNeg))), (3, .int (nI t26)), (0, .ref 13), (1, .int (nI lv)), (2, .int (nI op))] [] SH ((m_X1_write b ((FL (lv + 1) op (z_up Iv 13 2 ((Iv 13 2) + 1))).2) (((FL (lv + 1) op (z_up Iv 13 2 ((Iv 13 2) + 1))).2 13 6).toNatClampNeg) (-(f_X1_next Iv ((Iv 13 1).toNatClampNeg) ((Iv 13 2).toNatClampNeg)))), L, z_R b) 0 0 _
                  have hP79 : z_P ((m_X1_write b ((FL (lv + 1) op (z_up Iv 13 2 ((Iv 13 2) + 1))).2) (((FL (lv + 1) op (z_up Iv 13 2 ((Iv 13 2) + 1))).2 13 6).toNatClampNeg) (-(f_X1_next Iv ((Iv 13 1).toNatClampNeg) ((Iv 13 2).toNatClampNeg))))) := z_P_wr hP67 _
                  refine p_iload_n (z_dec zd_X1_readLevel 48 rfl) rfl 3 rfl (n := 80) rfl ?_
                  refine p_iconst (z_dec zd_X1_readLevel 49 rfl) (v := 2) (by decide) (n := 81) rfl ?_
                  refine p_icmp_ne (z_dec zd_X1_readLevel 50 rfl) (t := 86) (by decide) (n := 84) rfl (fun h81 => ?_) (fun h81 => ?_)
                  · refine p_iinc (z_dec zd_X1_readLevel 53 rfl) 1 rfl (v := (nI (t26 + 1))) (nI_1 _) (lv2 := [(3, .int (nI (t26 + 1))), (4, .int (f_X1_next Iv ((Iv 13 1).toNatClampNeg) ((Iv 13 2).toNatClampNeg))), (0, .ref 13), (1, .int (nI lv)), (2, .int (nI op))]) (by decide) rfl (n := 89) rfl ?_
                    refine p_goto (z_dec zd_X1_readLevel 54 rfl) (t := 26) (by decide) ?_
                    refine z_sub (lv' := [(3, .int (nI (t26 + 1))), (0, .ref 13), (1, .int (nI lv)), (2, .int (nI op))]) [0, 2, 3, 4] rfl ?_
                    rw [show gx_X1_readLevel_26 b FL lv op (r26 + 1) t26 Iv = gx_X1_readLevel_26 b FL lv op r26 (t26 + 1) (m_X1_write b ((FL (lv + 1) op (z_up Iv 13 2 ((Iv 13 2) + 1))).2) (((FL (lv + 1) op (z_up Iv 13 2 ((Iv 13 2) + 1))).2 13 6).toNatClampNeg) (-(f_X1_next Iv ((Iv 13 1).toNatClampNeg) ((Iv 13 2).toNatClampNeg)))) from by (conv => lhs; unfold gx_X1_readLevel_26); rw [if_pos h40, if_neg h67, if_neg h81]]
                    exact ih26 (t26 + 1) (m_X1_write b ((FL (lv + 1) op (z_up Iv 13 2 ((Iv 13 2) + 1))).2) (((FL (lv + 1) op (z_up Iv 13 2 ((Iv 13 2) + 1))).2 13 6).toNatClampNeg) (-(f_X1_next Iv ((Iv 13 1).toNatClampNeg) ((Iv 13 2).toNatClampNeg)))) (by omega) hP79
                  · refine p_iconst (z_dec zd_X1_readLevel 51 rfl) (v := 1) (by decide) (n := 85) rfl ?_
                    exact p_zret (z_dec zd_X1_readLevel 52 rfl) rfl (Or.inr rfl) ⟨(by (conv => rhs; unfold gx_X1_readLevel_26); rw [if_pos h40, if_neg h67, if_pos h81]), rfl, (z_3 (by (conv => rhs; unfold gx_X1_readLevel_26); rw [if_pos h40, if_neg h67, if_pos h81]) rfl)⟩
                · refine p_iconst (z_dec zd_X1_readLevel 42 rfl) (v := 0) (by decide) (n := 71) rfl ?_
                  exact p_zret (z_dec zd_X1_readLevel 43 rfl) rfl (Or.inl rfl) ⟨(by (conv => rhs; unfold gx_X1_readLevel_26); rw [if_pos h40, if_pos h67]), rfl, (z_3 (by (conv => rhs; unfold gx_X1_readLevel_26); rw [if_pos h40, if_pos h67]) rfl)⟩
        exact (by have q := (hL26 120 0 ((FL (lv + 1) op I).2) (by omega) hP19); (rw [show f_X1_readLevel b I FL FO lv op = _ from by unfold f_X1_readLevel; rw [if_pos h2, if_neg h19]]); (rw [show m_X1_readLevel b I FL FO lv op = _ from by unfold m_X1_readLevel; rw [if_pos h2, if_neg h19]]); exact q)
      · refine p_iconst (z_dec zd_X1_readLevel 14 rfl) (v := 0) (by decide) (n := 23) rfl ?_
        exact p_zret (z_dec zd_X1_readLevel 15 rfl) rfl (Or.inl rfl) ⟨(by unfold f_X1_readLevel; rw [if_pos h2, if_pos h19]), rfl, (z_3 (by unfold m_X1_readLevel; rw [if_pos h2, if_pos h19]) rfl)⟩
    · have hl4 : 4 < lv := z_nge (b := 4) h2
      unfold z_mL at hn
      refine p_aload_n (z_dec zd_X1_readLevel 3 rfl) rfl 0 rfl (n := 6) rfl ?_
      refine p_iload_n (z_dec zd_X1_readLevel 4 rfl) rfl 2 rfl (n := 7) rfl ?_
      refine q_callV (As := [.int (nI op)]) (rest := []) (z_dec zd_X1_readLevel 5 rfl) zk_X1_59 zv_X1_readOperand (hFO op I (by omega) (by unfold z_mO z_mL at *; omega) hP) rfl ⟨_, _, rfl⟩ rfl rfl (Nat.le_of_ble_eq_true rfl) (by omega) (n := 10) rfl ?_
      show PW zm_X1_readLevel d 10 [(0, .ref 13), (1, .int (nI lv)), (2, .int (nI op))] [.int ((FO op I).1)] SH ((FO op I).2, L, z_R b) 0 0 _
      exact p_zret (z_dec zd_X1_readLevel 6 rfl) rfl (hBO _ _) ⟨(by unfold f_X1_readLevel; rw [if_neg h2]), rfl, (z_3 (by unfold m_X1_readLevel; rw [if_neg h2]) rfl)⟩
  exact hentry
def f_X1_readOperand (b : Bool) (I : Nat → Nat → Int32) (FL : Nat → Nat → (Nat → Nat → Int32) → Int32 × (Nat → Nat → Int32)) (FO : Nat → (Nat → Nat → Int32) → Int32 × (Nat → Nat → Int32)) (op : Nat) : Int32 := if (f_X1_isDigit (f_X1_next I ((I 13 1).toNatClampNeg) ((I 13 2).toNatClampNeg))) = 0 then if (f_X1_isName (f_X1_next I ((I 13 1).toNatClampNeg) ((I 13 2).toNatClampNeg))) = 0 then if (f_X1_next I ((I 13 1).toNatClampNeg) ((I 13 2).toNatClampNeg)) = 40 then if (nI op) < 6 then if (f_X1_next I ((I 13 1).toNatClampNeg) ((I 13 2).toNatClampNeg)) = 40 then if (FL 0 (op + 1) (z_up I 13 2 ((I 13 2) + 1))).1 = 0 then 0 else if (f_X1_next ((FL 0 (op + 1) (z_up I 13 2 ((I 13 2) + 1))).2) (((FL 0 (op + 1) (z_up I 13 2 ((I 13 2) + 1))).2 13 1).toNatClampNeg) (((FL 0 (op + 1) (z_up I 13 2 ((I 13 2) + 1))).2 13 2).toNatClampNeg)) = 41 then 1 else 0 else if (FO (op + 1) (z_up I 13 2 ((I 13 2) + 1))).1 = 0 then 0 else if (f_X1_next I ((I 13 1).toNatClampNeg) ((I 13 2).toNatClampNeg)) = 33 then 1 else 1 else 0 else if (f_X1_next I ((I 13 1).toNatClampNeg) ((I 13 2).toNatClampNeg)) = 33 then if (nI op) < 6 then if (f_X1_next I ((I 13 1).toNatClampNeg) ((I 13 2).toNatClampNeg)) = 40 then if (FL 0 (op + 1) (z_up I 13 2 ((I 13 2) + 1))).1 = 0 then 0 else if (f_X1_next ((FL 0 (op + 1) (z_up I 13 2 ((I 13 2) + 1))).2) (((FL 0 (op + 1) (z_up I 13 2 ((I 13 2) + 1))).2 13 1).toNatClampNeg) (((FL 0 (op + 1) (z_up I 13 2 ((I 13 2) + 1))).2 13 2).toNatClampNeg)) = 41 then 1 else 0 else if (FO (op + 1) (z_up I 13 2 ((I 13 2) + 1))).1 = 0 then 0 else if (f_X1_next I ((I 13 1).toNatClampNeg) ((I 13 2).toNatClampNeg)) = 33 then 1 else 1 else 0 else if (f_X1_next I ((I 13 1).toNatClampNeg) ((I 13 2).toNatClampNeg)) = 45 then if (nI op) < 6 then if (f_X1_next I ((I 13 1).toNatClampNeg) ((I 13 2).toNatClampNeg)) = 40 then if (FL 0 (op + 1) (z_up I 13 2 ((I 13 2) + 1))).1 = 0 then 0 else if (f_X1_next ((FL 0 (op + 1) (z_up I 13 2 ((I 13 2) + 1))).2) (((FL 0 (op + 1) (z_up I 13 2 ((I 13 2) + 1))).2 13 1).toNatClampNeg) (((FL 0 (op + 1) (z_up I 13 2 ((I 13 2) + 1))).2 13 2).toNatClampNeg)) = 41 then 1 else 0 else if (FO (op + 1) (z_up I 13 2 ((I 13 2) + 1))).1 = 0 then 0 else if (f_X1_next I ((I 13 1).toNatClampNeg) ((I 13 2).toNatClampNeg)) = 33 then 1 else 1 else 0 else 0 else 1 else 1
def m_X1_readOperand (b : Bool) (I : Nat → Nat → Int32) (FL : Nat → Nat → (Nat → Nat → Int32) → Int32 × (Nat → Nat → Int32)) (FO : Nat → (Nat → Nat → Int32) → Int32 × (Nat → Nat → Int32)) (op : Nat) : Nat → Nat → Int32 := if (f_X1_isDigit (f_X1_next I ((I 13 1).toNatClampNeg) ((I 13 2).toNatClampNeg))) = 0 then if (f_X1_isName (f_X1_next I ((I 13 1).toNatClampNeg) ((I 13 2).toNatClampNeg))) = 0 then if (f_X1_next I ((I 13 1).toNatClampNeg) ((I 13 2).toNatClampNeg)) = 40 then if (nI op) < 6 then if (f_X1_next I ((I 13 1).toNatClampNeg) ((I 13 2).toNatClampNeg)) = 40 then if (FL 0 (op + 1) (z_up I 13 2 ((I 13 2) + 1))).1 = 0 then (FL 0 (op + 1) (z_up I 13 2 ((I 13 2) + 1))).2 else if (f_X1_next ((FL 0 (op + 1) (z_up I 13 2 ((I 13 2) + 1))).2) (((FL 0 (op + 1) (z_up I 13 2 ((I 13 2) + 1))).2 13 1).toNatClampNeg) (((FL 0 (op + 1) (z_up I 13 2 ((I 13 2) + 1))).2 13 2).toNatClampNeg)) = 41 then (z_up (FL 0 (op + 1) (z_up I 13 2 ((I 13 2) + 1))).2 13 2 (((FL 0 (op + 1) (z_up I 13 2 ((I 13 2) + 1))).2 13 2) + 1)) else (FL 0 (op + 1) (z_up I 13 2 ((I 13 2) + 1))).2 else if (FO (op + 1) (z_up I 13 2 ((I 13 2) + 1))).1 = 0 then (FO (op + 1) (z_up I 13 2 ((I 13 2) + 1))).2 else if (f_X1_next I ((I 13 1).toNatClampNeg) ((I 13 2).toNatClampNeg)) = 33 then (m_X1_write b ((FO (op + 1) (z_up I 13 2 ((I 13 2) + 1))).2) (((FO (op + 1) (z_up I 13 2 ((I 13 2) + 1))).2 13 6).toNatClampNeg) (-33)) else (m_X1_write b ((FO (op + 1) (z_up I 13 2 ((I 13 2) + 1))).2) (((FO (op + 1) (z_up I 13 2 ((I 13 2) + 1))).2 13 6).toNatClampNeg) (-95)) else I else if (f_X1_next I ((I 13 1).toNatClampNeg) ((I 13 2).toNatClampNeg)) = 33 then if (nI op) < 6 then if (f_X1_next I ((I 13 1).toNatClampNeg) ((I 13 2).toNatClampNeg)) = 40 then if (FL 0 (op + 1) (z_up I 13 2 ((I 13 2) + 1))).1 = 0 then (FL 0 (op + 1) (z_up I 13 2 ((I 13 2) + 1))).2 else if (f_X1_next ((FL 0 (op + 1) (z_up I 13 2 ((I 13 2) + 1))).2) (((FL 0 (op + 1) (z_up I 13 2 ((I 13 2) + 1))).2 13 1).toNatClampNeg) (((FL 0 (op + 1) (z_up I 13 2 ((I 13 2) + 1))).2 13 2).toNatClampNeg)) = 41 then (z_up (FL 0 (op + 1) (z_up I 13 2 ((I 13 2) + 1))).2 13 2 (((FL 0 (op + 1) (z_up I 13 2 ((I 13 2) + 1))).2 13 2) + 1)) else (FL 0 (op + 1) (z_up I 13 2 ((I 13 2) + 1))).2 else if (FO (op + 1) (z_up I 13 2 ((I 13 2) + 1))).1 = 0 then (FO (op + 1) (z_up I 13 2 ((I 13 2) + 1))).2 else if (f_X1_next I ((I 13 1).toNatClampNeg) ((I 13 2).toNatClampNeg)) = 33 then (m_X1_write b ((FO (op + 1) (z_up I 13 2 ((I 13 2) + 1))).2) (((FO (op + 1) (z_up I 13 2 ((I 13 2) + 1))).2 13 6).toNatClampNeg) (-33)) else (m_X1_write b ((FO (op + 1) (z_up I 13 2 ((I 13 2) + 1))).2) (((FO (op + 1) (z_up I 13 2 ((I 13 2) + 1))).2 13 6).toNatClampNeg) (-95)) else I else if (f_X1_next I ((I 13 1).toNatClampNeg) ((I 13 2).toNatClampNeg)) = 45 then if (nI op) < 6 then if (f_X1_next I ((I 13 1).toNatClampNeg) ((I 13 2).toNatClampNeg)) = 40 then if (FL 0 (op + 1) (z_up I 13 2 ((I 13 2) + 1))).1 = 0 then (FL 0 (op + 1) (z_up I 13 2 ((I 13 2) + 1))).2 else if (f_X1_next ((FL 0 (op + 1) (z_up I 13 2 ((I 13 2) + 1))).2) (((FL 0 (op + 1) (z_up I 13 2 ((I 13 2) + 1))).2 13 1).toNatClampNeg) (((FL 0 (op + 1) (z_up I 13 2 ((I 13 2) + 1))).2 13 2).toNatClampNeg)) = 41 then (z_up (FL 0 (op + 1) (z_up I 13 2 ((I 13 2) + 1))).2 13 2 (((FL 0 (op + 1) (z_up I 13 2 ((I 13 2) + 1))).2 13 2) + 1)) else (FL 0 (op + 1) (z_up I 13 2 ((I 13 2) + 1))).2 else if (FO (op + 1) (z_up I 13 2 ((I 13 2) + 1))).1 = 0 then (FO (op + 1) (z_up I 13 2 ((I 13 2) + 1))).2 else if (f_X1_next I ((I 13 1).toNatClampNeg) ((I 13 2).toNatClampNeg)) = 33 then (m_X1_write b ((FO (op + 1) (z_up I 13 2 ((I 13 2) + 1))).2) (((FO (op + 1) (z_up I 13 2 ((I 13 2) + 1))).2 13 6).toNatClampNeg) (-33)) else (m_X1_write b ((FO (op + 1) (z_up I 13 2 ((I 13 2) + 1))).2) (((FO (op + 1) (z_up I 13 2 ((I 13 2) + 1))).2 13 6).toNatClampNeg) (-95)) else I else I else (m_X1_write b (z_up I 13 2 ((I 13 2) + 1)) (((z_up I 13 2 ((I 13 2) + 1)) 13 6).toNatClampNeg) (-(f_X1_next I ((I 13 1).toNatClampNeg) ((I 13 2).toNatClampNeg)))) else (m_X1_readNumber b I)
set_option maxHeartbeats 4000000 in
set_option maxRecDepth 100000 in
theorem c_X1_readOperand (d : Nat) (hd : 3 ≤ d) (b : Bool) (I : Nat → Nat → Int32) (L : Nat → Nat → Int64) (hP : z_P I) (n : Nat) (FL : Nat → Nat → (Nat → Nat → Int32) → Int32 × (Nat → Nat → Int32)) (FO : Nat → (Nat → Nat → Int32) → Int32 × (Nat → Nat → Int32)) (hFL : ∀ (lv op : Nat) (J : Nat → Nat → Int32), lv ≤ 5 → op ≤ 6 → z_mL lv op < n → z_P J → z_CT zm_X1_readLevel (d - 1) [.ref 13, .int (nI lv), .int (nI op)] SH (J, L, z_R b) 0 0 (z_ret (some (.int (FL lv op J).1)) ((FL lv op J).2, L, z_R b))) (hFO : ∀ (op : Nat) (J : Nat → Nat → Int32), op ≤ 6 → z_mO op < n → z_P J → z_CT zm_X1_readOperand (d - 1) [.ref 13, .int (nI op)] SH (J, L, z_R b) 0 0 (z_ret (some (.int (FO op J).1)) ((FO op J).2, L, z_R b))) (hPL : ∀ (lv op : Nat) (J : Nat → Nat → Int32), lv ≤ 5 → z_P J → z_P (FL lv op J).2) (hPO : ∀ (op : Nat) (J : Nat → Nat → Int32), z_P J → z_P (FO op J).2) (hBO : ∀ (op : Nat) (J : Nat → Nat → Int32), (FO op J).1 = 0 ∨ (FO op J).1 = 1) (op : Nat) (hop : op < 7) (hn : z_mO op < n + 1) : z_CT zm_X1_readOperand d [.ref 13, .int (nI op)] SH (I, L, z_R b) 0 0 (z_ret (some (.int (f_X1_readOperand b I FL FO op))) ((m_X1_readOperand b I FL FO op), L, z_R b)) := by
  refine z_enter (by decide +kernel) (Nat.le_of_ble_eq_true rfl) ?_
  have hentry : PW zm_X1_readOperand d 0 [(0, .ref 13), (1, .int (nI op))] [] SH (I, L, z_R b) 0 0 (z_ret (some (.int (f_X1_readOperand b I FL FO op))) ((m_X1_readOperand b I FL FO op), L, z_R b)) := by
    refine p_aload_n (z_dec zd_X1_readOperand 0 rfl) rfl 0 rfl (n := 1) rfl ?_
    refine q_callV (As := []) (rest := []) (z_dec zd_X1_readOperand 1 rfl) zk_X1_47 zv_X1_next (c_X1_next (d - 1) (by omega) b I L ((I 13 1).toNatClampNeg) hP.1.1 hP.1.2 ((I 13 2).toNatClampNeg) hP.2.1.1 (Nat.le_trans hP.2.1.2 hP.1.2)) rfl ⟨_, _, rfl⟩ rfl rfl (Nat.le_of_ble_eq_true rfl) (by omega) (n := 4) rfl ?_
    show PW zm_X1_readOperand d 4 [(0, .ref 13), (1, .int (nI op))] [.int (f_X1_next I ((I 13 1).toNatClampNeg) ((I 13 2).toNatClampNeg))] SH (I, L, z_R b) 0 0 _
    refine p_istore_n (z_dec zd_X1_readOperand 2 rfl) rfl (lv2 := [(2, .int (f_X1_next I ((I 13 1).toNatClampNeg) ((I 13 2).toNatClampNeg))), (0, .ref 13), (1, .int (nI op))]) (by decide) rfl (n := 5) rfl ?_
    refine p_iload_n (z_dec zd_X1_readOperand 3 rfl) rfl 0 rfl (n := 6) rfl ?_
    refine q_callS (As := [.int (f_X1_next I ((I 13 1).toNatClampNeg) ((I 13 2).toNatClampNeg))]) (rest := []) (z_dec zd_X1_readOperand 4 rfl) zk_X1_67 zs_X1_isDigit (c_X1_isDigit (d - 1) (by omega) b I L (f_X1_next I ((I 13 1).toNatClampNeg) ((I 13 2).toNatClampNeg))) rfl rfl (Nat.le_of_ble_eq_true rfl) (by omega) (n := 9) rfl ?_
    show PW zm_X1_readOperand d 9 [(2, .int (f_X1_next I ((I 13 1).toNatClampNeg) ((I 13 2).toNatClampNeg))), (0, .ref 13), (1, .int (nI op))] [.int (f_X1_isDigit (f_X1_next I ((I 13 1).toNatClampNeg) ((I 13 2).toNatClampNeg)))] SH (I, L, z_R b) 0 0 _
    refine p_if_eq (z_dec zd_X1_readOperand 5 rfl) (t := 18) (by decide) (n := 12) rfl (fun h9 => ?_) (fun h9 => ?_)
    · refine p_iload_n (z_dec zd_X1_readOperand 10 rfl) rfl 0 rfl (n := 19) rfl ?_
      refine q_callS (As := [.int (f_X1_next I ((I 13 1).toNatClampNeg) ((I 13 2).toNatClampNeg))]) (rest := []) (z_dec zd_X1_readOperand 11 rfl) zk_X1_73 zs_X1_isName (c_X1_isName (d - 1) (by omega) b I L (f_X1_next I ((I 13 1).toNatClampNeg) ((I 13 2).toNatClampNeg))) rfl rfl (Nat.le_of_ble_eq_true rfl) (by omega) (n := 22) rfl ?_
      show PW zm_X1_readOperand d 22 [(2, .int (f_X1_next I ((I 13 1).toNatClampNeg) ((I 13 2).toNatClampNeg))), (0, .ref 13), (1, .int (nI op))] [.int (f_X1_isName (f_X1_next I ((I 13 1).toNatClampNeg) ((I 13 2).toNatClampNeg)))] SH (I, L, z_R b) 0 0 _
      refine p_if_eq (z_dec zd_X1_readOperand 12 rfl) (t := 43) (by decide) (n := 25) rfl (fun h22 => ?_) (fun h22 => ?_)
      · refine p_iload_n (z_dec zd_X1_readOperand 25 rfl) rfl 0 rfl (n := 44) rfl ?_
        refine p_bipush (z_dec zd_X1_readOperand 26 rfl) (v := 40) (by decide) (n := 46) rfl ?_
        refine p_icmp_eq (z_dec zd_X1_readOperand 27 rfl) (t := 61) (by decide) (n := 49) rfl (fun h46 => ?_) (fun h46 => ?_)
        · refine p_iload_n (z_dec zd_X1_readOperand 34 rfl) rfl 2 rfl (n := 62) rfl ?_
          refine p_bipush (z_dec zd_X1_readOperand 35 rfl) (v := 6) (by decide) (n := 64) rfl ?_
          refine p_icmp_lt (z_dec zd_X1_readOperand 36 rfl) (t := 69) (by decide) (n := 67) rfl (fun h64 => ?_) (fun h64 => ?_)
          · have ho6 : op < 6 := z_lt (b := 6) h64
            unfold z_mO at hn
            refine p_aload_n (z_dec zd_X1_readOperand 39 rfl) rfl 1 rfl (n := 70) rfl ?_
            refine p_dup (z_dec zd_X1_readOperand 40 rfl) rfl (n := 71) rfl ?_
            refine q_getI (z_dec zd_X1_readOperand 41 rfl) zf_X1_19 (by decide) rfl (v := (I 13 2)) rfl (n := 74) rfl ?_
            refine p_iconst (z_dec zd_X1_readOperand 42 rfl) (v := 1) (by decide) (n := 75) rfl ?_
            refine p_iadd (z_dec zd_X1_readOperand 43 rfl) (n := 76) rfl ?_
            refine q_putI (z_dec zd_X1_readOperand 44 rfl) zp_X1_19 (fun q => by cases q) rfl (n := 79) rfl ?_
            have hP79 : z_P ((z_up I 13 2 ((I 13 2) + 1))) := z_P_av hP (by intro q; have q2 : f_X1_next I _ _ = -1 := q; first | exact absurd (q2.symm.trans h46) (by decide) | exact absurd (q2.symm.trans h52) (by decide) | exact absurd (q2.symm.trans h58) (by decide))
            refine p_iload_n (z_dec zd_X1_readOperand 45 rfl) rfl 0 rfl (n := 80) rfl ?_
            refine p_bipush (z_dec zd_X1_readOperand 46 rfl) (v := 40) (by decide) (n := 82) rfl ?_
            refine p_icmp_ne (z_dec zd_X1_readOperand 47 rfl) (t := 119) (by decide) (n := 85) rfl (fun h82 => ?_) (fun h82 => ?_)
            · refine p_aload_n (z_dec zd_X1_readOperand 69 rfl) rfl 1 rfl (n := 120) rfl ?_
              refine p_iload_n (z_dec zd_X1_readOperand 70 rfl) rfl 2 rfl (n := 121) rfl ?_
              refine p_iconst (z_dec zd_X1_readOperand 71 rfl) (v := 1) (by decide) (n := 122) rfl ?_
              refine p_iadd (z_dec zd_X1_readOperand 72 rfl) (n := 123) rfl ?_
              refine z_lv rfl (show _ = [.int (nI (op + 1)), .ref 13] from (by rw [nI_1])) rfl ?_
              refine q_callV (As := [.int (nI (op + 1))]) (rest := []) (z_dec zd_X1_readOperand 73 rfl) zk_X1_59 zv_X1_readOperand (hFO (op + 1) (z_up I 13 2 ((I 13 2) + 1)) (by omega) (by unfold z_mO z_mL at *; omega) hP79) rfl ⟨_, _, rfl⟩ rfl rfl (Nat.le_of_ble_eq_true rfl) (by omega) (n := 126) rfl ?_
              show PW zm_X1_readOperand d 126 [(2, .int (f_X1_next I ((I 13 1).toNatClampNeg) ((I 13 2).toNatClampNeg))), (0, .ref 13), (1, .int (nI op))] [.int ((FO (op + 1) (z_up I 13 2 ((I 13 2) + 1))).1)] SH ((FO (op + 1) (z_up I 13 2 ((I 13 2) + 1))).2, L, z_R b) 0 0 _
              have hP126 : z_P ((FO (op + 1) (z_up I 13 2 ((I 13 2) + 1))).2) := hPO _ _ hP79
              refine p_if_ne (z_dec zd_X1_readOperand 74 rfl) (t := 131) (by decide) (n := 129) rfl (fun h126 => ?_) (fun h126 => ?_)
              · refine p_aload_n (z_dec zd_X1_readOperand 77 rfl) rfl 1 rfl (n := 132) rfl ?_
                refine p_iload_n (z_dec zd_X1_readOperand 78 rfl) rfl 0 rfl (n := 133) rfl ?_
                refine p_bipush (z_dec zd_X1_readOperand 79 rfl) (v := 33) (by decide) (n := 135) rfl ?_
                refine p_icmp_ne (z_dec zd_X1_readOperand 80 rfl) (t := 143) (by decide) (n := 138) rfl (fun h135 => ?_) (fun h135 => ?_)
                · refine p_bipush (z_dec zd_X1_readOperand 83 rfl) (v := (-95)) (by decide) (n := 145) rfl ?_
                  refine q_callV (As := [.int (-95)]) (rest := []) (z_dec zd_X1_readOperand 84 rfl) zk_X1_55 zv_X1_write (c_X1_write (d - 1) (by omega) b ((FO (op + 1) (z_up I 13 2 ((I 13 2) + 1))).2) L (((FO (op + 1) (z_up I 13 2 ((I 13 2) + 1))).2 13 6).toNatClampNeg) hP126.2.2.1 hP126.2.2.2 (-95)) rfl ⟨_, _, rfl⟩ rfl rfl (Nat.le_of_ble_eq_true rfl) (by omega) (n := 148) rfl ?_
                  show PW zm_X1_readOperand d 148 [(2, .int (f_X1_next I ((I 13 1).toNatClampNeg) ((I 13 2).toNatClampNeg))), (0, .ref 13), (1, .int (nI op))] [] SH ((m_X1_write b ((FO (op + 1) (z_up I 13 2 ((I 13 2) + 1))).2) (((FO (op + 1) (z_up I 13 2 ((I 13 2) + 1))).2 13 6).toNatClampNeg) (-95)), L, z_R b) 0 0 _
                  refine p_iconst (z_dec zd_X1_readOperand 85 rfl) (v := 1) (by decide) (n := 149) rfl ?_
                  exact p_zret (z_dec zd_X1_readOperand 86 rfl) rfl (Or.inr rfl) ⟨(by unfold f_X1_readOperand; rw [if_pos h9, if_pos h22, if_pos h46, if_pos h64, if_neg h82, if_neg h126, if_neg h135]), rfl, (z_3 (by unfold m_X1_readOperand; rw [if_pos h9, if_pos h22, if_pos h46, if_pos h64, if_neg h82, if_neg h126, if_neg h135]) rfl)⟩
                · refine p_bipush (z_dec zd_X1_readOperand 81 rfl) (v := (-33)) (by decide) (n := 140) rfl ?_
                  refine p_goto (z_dec zd_X1_readOperand 82 rfl) (t := 145) (by decide) ?_
                  refine q_callV (As := [.int (-33)]) (rest := []) (z_dec zd_X1_readOperand 84 rfl) zk_X1_55 zv_X1_write (c_X1_write (d - 1) (by omega) b ((FO (op + 1) (z_up I 13 2 ((I 13 2) + 1))).2) L (((FO (op + 1) (z_up I 13 2 ((I 13 2) + 1))).2 13 6).toNatClampNeg) hP126.2.2.1 hP126.2.2.2 (-33)) rfl ⟨_, _, rfl⟩ rfl rfl (Nat.le_of_ble_eq_true rfl) (by omega) (n := 148) rfl ?_
                  show PW zm_X1_readOperand d 148 [(2, .int (f_X1_next I ((I 13 1).toNatClampNeg) ((I 13 2).toNatClampNeg))), (0, .ref 13), (1, .int (nI op))] [] SH ((m_X1_write b ((FO (op + 1) (z_up I 13 2 ((I 13 2) + 1))).2) (((FO (op + 1) (z_up I 13 2 ((I 13 2) + 1))).2 13 6).toNatClampNeg) (-33)), L, z_R b) 0 0 _
                  refine p_iconst (z_dec zd_X1_readOperand 85 rfl) (v := 1) (by decide) (n := 149) rfl ?_
                  exact p_zret (z_dec zd_X1_readOperand 86 rfl) rfl (Or.inr rfl) ⟨(by unfold f_X1_readOperand; rw [if_pos h9, if_pos h22, if_pos h46, if_pos h64, if_neg h82, if_neg h126, if_pos h135]), rfl, (z_3 (by unfold m_X1_readOperand; rw [if_pos h9, if_pos h22, if_pos h46, if_pos h64, if_neg h82, if_neg h126, if_pos h135]) rfl)⟩
              · refine p_iconst (z_dec zd_X1_readOperand 75 rfl) (v := 0) (by decide) (n := 130) rfl ?_
                exact p_zret (z_dec zd_X1_readOperand 76 rfl) rfl (Or.inl rfl) ⟨(by unfold f_X1_readOperand; rw [if_pos h9, if_pos h22, if_pos h46, if_pos h64, if_neg h82, if_pos h126]), rfl, (z_3 (by unfold m_X1_readOperand; rw [if_pos h9, if_pos h22, if_pos h46, if_pos h64, if_neg h82, if_pos h126]) rfl)⟩
            · refine p_aload_n (z_dec zd_X1_readOperand 48 rfl) rfl 1 rfl (n := 86) rfl ?_
              refine p_iconst (z_dec zd_X1_readOperand 49 rfl) (v := 0) (by decide) (n := 87) rfl ?_
              refine p_iload_n (z_dec zd_X1_readOperand 50 rfl) rfl 2 rfl (n := 88) rfl ?_
              refine p_iconst (z_dec zd_X1_readOperand 51 rfl) (v := 1) (by decide) (n := 89) rfl ?_
              refine p_iadd (z_dec zd_X1_readOperand 52 rfl) (n := 90) rfl ?_
              refine z_lv rfl (show _ = [.int (nI (op + 1)), .int 0, .ref 13] from (by rw [nI_1])) rfl ?_
              refine q_callV (As := [.int (nI 0), .int (nI (op + 1))]) (rest := []) (z_dec zd_X1_readOperand 53 rfl) zk_X1_51 zv_X1_readLevel (hFL 0 (op + 1) (z_up I 13 2 ((I 13 2) + 1)) (by omega) (by omega) (by unfold z_mL at *; omega) hP79) rfl ⟨_, _, rfl⟩ rfl rfl (Nat.le_of_ble_eq_true rfl) (by omega) (n := 93) rfl ?_
              show PW zm_X1_readOperand d 93 [(2, .int (f_X1_next I ((I 13 1).toNatClampNeg) ((I 13 2).toNatClampNeg))), (0, .ref 13), (1, .int (nI op))] [.int ((FL 0 (op + 1) (z_up I 13 2 ((I 13 2) + 1))).1)] SH ((FL 0 (op + 1) (z_up I 13 2 ((I 13 2) + 1))).2, L, z_R b) 0 0 _
              have hP93 : z_P ((FL 0 (op + 1) (z_up I 13 2 ((I 13 2) + 1))).2) := hPL _ _ _ (by omega) hP79
              refine p_if_eq (z_dec zd_X1_readOperand 54 rfl) (t := 105) (by decide) (n := 96) rfl (fun h93 => ?_) (fun h93 => ?_)
              · refine p_iconst (z_dec zd_X1_readOperand 59 rfl) (v := 0) (by decide) (n := 106) rfl ?_
                exact p_zret (z_dec zd_X1_readOperand 60 rfl) rfl (Or.inl rfl) ⟨(by unfold f_X1_readOperand; rw [if_pos h9, if_pos h22, if_pos h46, if_pos h64, if_pos h82, if_pos h93]), rfl, (z_3 (by unfold m_X1_readOperand; rw [if_pos h9, if_pos h22, if_pos h46, if_pos h64, if_pos h82, if_pos h93]) rfl)⟩
              · refine p_aload_n (z_dec zd_X1_readOperand 55 rfl) rfl 1 rfl (n := 97) rfl ?_
                refine q_callV (As := []) (rest := []) (z_dec zd_X1_readOperand 56 rfl) zk_X1_47 zv_X1_next (c_X1_next (d - 1) (by omega) b ((FL 0 (op + 1) (z_up I 13 2 ((I 13 2) + 1))).2) L (((FL 0 (op + 1) (z_up I 13 2 ((I 13 2) + 1))).2 13 1).toNatClampNeg) hP93.1.1 hP93.1.2 (((FL 0 (op + 1) (z_up I 13 2 ((I 13 2) + 1))).2 13 2).toNatClampNeg) hP93.2.1.1 (Nat.le_trans hP93.2.1.2 hP93.1.2)) rfl ⟨_, _, rfl⟩ rfl rfl (Nat.le_of_ble_eq_true rfl) (by omega) (n := 100) rfl ?_
                show PW zm_X1_readOperand d 100 [(2, .int (f_X1_next I ((I 13 1).toNatClampNeg) ((I 13 2).toNatClampNeg))), (0, .ref 13), (1, .int (nI op))] [.int (f_X1_next ((FL 0 (op + 1) (z_up I 13 2 ((I 13 2) + 1))).2) (((FL 0 (op + 1) (z_up I 13 2 ((I 13 2) + 1))).2 13 1).toNatClampNeg) (((FL 0 (op + 1) (z_up I 13 2 ((I 13 2) + 1))).2 13 2).toNatClampNeg))] SH ((FL 0 (op + 1) (z_up I 13 2 ((I 13 2) + 1))).2, L, z_R b) 0 0 _
                refine p_bipush (z_dec zd_X1_readOperand 57 rfl) (v := 41) (by decide) (n := 102) rfl ?_
                refine p_icmp_eq (z_dec zd_X1_readOperand 58 rfl) (t := 107) (by decide) (n := 105) rfl (fun h102 => ?_) (fun h102 => ?_)
                · refine p_aload_n (z_dec zd_X1_readOperand 61 rfl) rfl 1 rfl (n := 108) rfl ?_
                  refine p_dup (z_dec zd_X1_readOperand 62 rfl) rfl (n := 109) rfl ?_
                  refine q_getI (z_dec zd_X1_readOperand 63 rfl) zf_X1_19 (by decide) rfl (v := ((FL 0 (op + 1) (z_up I 13 2 ((I 13 2) + 1))).2 13 2)) rfl (n := 112) rfl ?_
                  refine p_iconst (z_dec zd_X1_readOperand 64 rfl) (v := 1) (by decide) (n := 113) rfl ?_
                  refine p_iadd (z_dec zd_X1_readOperand 65 rfl) (n := 114) rfl ?_
                  refine q_putI (z_dec zd_X1_readOperand 66 rfl) zp_X1_19 (fun q => by cases q) rfl (n := 117) rfl ?_
                  refine p_iconst (z_dec zd_X1_readOperand 67 rfl) (v := 1) (by decide) (n := 118) rfl ?_
                  exact p_zret (z_dec zd_X1_readOperand 68 rfl) rfl (Or.inr rfl) ⟨(by unfold f_X1_readOperand; rw [if_pos h9, if_pos h22, if_pos h46, if_pos h64, if_pos h82, if_neg h93, if_pos h102]), rfl, (z_3 (by unfold m_X1_readOperand; rw [if_pos h9, if_pos h22, if_pos h46, if_pos h64, if_pos h82, if_neg h93, if_pos h102]) rfl)⟩
                · refine p_iconst (z_dec zd_X1_readOperand 59 rfl) (v := 0) (by decide) (n := 106) rfl ?_
                  exact p_zret (z_dec zd_X1_readOperand 60 rfl) rfl (Or.inl rfl) ⟨(by unfold f_X1_readOperand; rw [if_pos h9, if_pos h22, if_pos h46, if_pos h64, if_pos h82, if_neg h93, if_neg h102]), rfl, (z_3 (by unfold m_X1_readOperand; rw [if_pos h9, if_pos h22, if_pos h46, if_pos h64, if_pos h82, if_neg h93, if_neg h102]) rfl)⟩
          · refine p_iconst (z_dec zd_X1_readOperand 37 rfl) (v := 0) (by decide) (n := 68) rfl ?_
            exact p_zret (z_dec zd_X1_readOperand 38 rfl) rfl (Or.inl rfl) ⟨(by unfold f_X1_readOperand; rw [if_pos h9, if_pos h22, if_pos h46, if_neg h64]), rfl, (z_3 (by unfold m_X1_readOperand; rw [if_pos h9, if_pos h22, if_pos h46, if_neg h64]) rfl)⟩
        · refine p_iload_n (z_dec zd_X1_readOperand 28 rfl) rfl 0 rfl (n := 50) rfl ?_
          refine p_bipush (z_dec zd_X1_readOperand 29 rfl) (v := 33) (by decide) (n := 52) rfl ?_
          refine p_icmp_eq (z_dec zd_X1_readOperand 30 rfl) (t := 61) (by decide) (n := 55) rfl (fun h52 => ?_) (fun h52 => ?_)
          · refine p_iload_n (z_dec zd_X1_readOperand 34 rfl) rfl 2 rfl (n := 62) rfl ?_
            refine p_bipush (z_dec zd_X1_readOperand 35 rfl) (v := 6) (by decide) (n := 64) rfl ?_
            refine p_icmp_lt (z_dec zd_X1_readOperand 36 rfl) (t := 69) (by decide) (n := 67) rfl (fun h64 => ?_) (fun h64 => ?_)
            · have ho6 : op < 6 := z_lt (b := 6) h64
              unfold z_mO at hn
              refine p_aload_n (z_dec zd_X1_readOperand 39 rfl) rfl 1 rfl (n := 70) rfl ?_
              refine p_dup (z_dec zd_X1_readOperand 40 rfl) rfl (n := 71) rfl ?_
              refine q_getI (z_dec zd_X1_readOperand 41 rfl) zf_X1_19 (by decide) rfl (v := (I 13 2)) rfl (n := 74) rfl ?_
              refine p_iconst (z_dec zd_X1_readOperand 42 rfl) (v := 1) (by decide) (n := 75) rfl ?_
              refine p_iadd (z_dec zd_X1_readOperand 43 rfl) (n := 76) rfl ?_
              refine q_putI (z_dec zd_X1_readOperand 44 rfl) zp_X1_19 (fun q => by cases q) rfl (n := 79) rfl ?_
              have hP79 : z_P ((z_up I 13 2 ((I 13 2) + 1))) := z_P_av hP (by intro q; have q2 : f_X1_next I _ _ = -1 := q; first | exact absurd (q2.symm.trans h46) (by decide) | exact absurd (q2.symm.trans h52) (by decide) | exact absurd (q2.symm.trans h58) (by decide))
              refine p_iload_n (z_dec zd_X1_readOperand 45 rfl) rfl 0 rfl (n := 80) rfl ?_
              refine p_bipush (z_dec zd_X1_readOperand 46 rfl) (v := 40) (by decide) (n := 82) rfl ?_
              refine p_icmp_ne (z_dec zd_X1_readOperand 47 rfl) (t := 119) (by decide) (n := 85) rfl (fun h82 => ?_) (fun h82 => ?_)
              · refine p_aload_n (z_dec zd_X1_readOperand 69 rfl) rfl 1 rfl (n := 120) rfl ?_
                refine p_iload_n (z_dec zd_X1_readOperand 70 rfl) rfl 2 rfl (n := 121) rfl ?_
                refine p_iconst (z_dec zd_X1_readOperand 71 rfl) (v := 1) (by decide) (n := 122) rfl ?_
                refine p_iadd (z_dec zd_X1_readOperand 72 rfl) (n := 123) rfl ?_
                refine z_lv rfl (show _ = [.int (nI (op + 1)), .ref 13] from (by rw [nI_1])) rfl ?_
                refine q_callV (As := [.int (nI (op + 1))]) (rest := []) (z_dec zd_X1_readOperand 73 rfl) zk_X1_59 zv_X1_readOperand (hFO (op + 1) (z_up I 13 2 ((I 13 2) + 1)) (by omega) (by unfold z_mO z_mL at *; omega) hP79) rfl ⟨_, _, rfl⟩ rfl rfl (Nat.le_of_ble_eq_true rfl) (by omega) (n := 126) rfl ?_
                show PW zm_X1_readOperand d 126 [(2, .int (f_X1_next I ((I 13 1).toNatClampNeg) ((I 13 2).toNatClampNeg))), (0, .ref 13), (1, .int (nI op))] [.int ((FO (op + 1) (z_up I 13 2 ((I 13 2) + 1))).1)] SH ((FO (op + 1) (z_up I 13 2 ((I 13 2) + 1))).2, L, z_R b) 0 0 _
                have hP126 : z_P ((FO (op + 1) (z_up I 13 2 ((I 13 2) + 1))).2) := hPO _ _ hP79
                refine p_if_ne (z_dec zd_X1_readOperand 74 rfl) (t := 131) (by decide) (n := 129) rfl (fun h126 => ?_) (fun h126 => ?_)
                · refine p_aload_n (z_dec zd_X1_readOperand 77 rfl) rfl 1 rfl (n := 132) rfl ?_
                  refine p_iload_n (z_dec zd_X1_readOperand 78 rfl) rfl 0 rfl (n := 133) rfl ?_
                  refine p_bipush (z_dec zd_X1_readOperand 79 rfl) (v := 33) (by decide) (n := 135) rfl ?_
                  refine p_icmp_ne (z_dec zd_X1_readOperand 80 rfl) (t := 143) (by decide) (n := 138) rfl (fun h135 => ?_) (fun h135 => ?_)
                  · refine p_bipush (z_dec zd_X1_readOperand 83 rfl) (v := (-95)) (by decide) (n := 145) rfl ?_
                    refine q_callV (As := [.int (-95)]) (rest := []) (z_dec zd_X1_readOperand 84 rfl) zk_X1_55 zv_X1_write (c_X1_write (d - 1) (by omega) b ((FO (op + 1) (z_up I 13 2 ((I 13 2) + 1))).2) L (((FO (op + 1) (z_up I 13 2 ((I 13 2) + 1))).2 13 6).toNatClampNeg) hP126.2.2.1 hP126.2.2.2 (-95)) rfl ⟨_, _, rfl⟩ rfl rfl (Nat.le_of_ble_eq_true rfl) (by omega) (n := 148) rfl ?_
                    show PW zm_X1_readOperand d 148 [(2, .int (f_X1_next I ((I 13 1).toNatClampNeg) ((I 13 2).toNatClampNeg))), (0, .ref 13), (1, .int (nI op))] [] SH ((m_X1_write b ((FO (op + 1) (z_up I 13 2 ((I 13 2) + 1))).2) (((FO (op + 1) (z_up I 13 2 ((I 13 2) + 1))).2 13 6).toNatClampNeg) (-95)), L, z_R b) 0 0 _
                    refine p_iconst (z_dec zd_X1_readOperand 85 rfl) (v := 1) (by decide) (n := 149) rfl ?_
                    exact p_zret (z_dec zd_X1_readOperand 86 rfl) rfl (Or.inr rfl) ⟨(by unfold f_X1_readOperand; rw [if_pos h9, if_pos h22, if_neg h46, if_pos h52, if_pos h64, if_neg h82, if_neg h126, if_neg h135]), rfl, (z_3 (by unfold m_X1_readOperand; rw [if_pos h9, if_pos h22, if_neg h46, if_pos h52, if_pos h64, if_neg h82, if_neg h126, if_neg h135]) rfl)⟩
                  · refine p_bipush (z_dec zd_X1_readOperand 81 rfl) (v := (-33)) (by decide) (n := 140) rfl ?_
                    refine p_goto (z_dec zd_X1_readOperand 82 rfl) (t := 145) (by decide) ?_
                    refine q_callV (As := [.int (-33)]) (rest := []) (z_dec zd_X1_readOperand 84 rfl) zk_X1_55 zv_X1_write (c_X1_write (d - 1) (by omega) b ((FO (op + 1) (z_up I 13 2 ((I 13 2) + 1))).2) L (((FO (op + 1) (z_up I 13 2 ((I 13 2) + 1))).2 13 6).toNatClampNeg) hP126.2.2.1 hP126.2.2.2 (-33)) rfl ⟨_, _, rfl⟩ rfl rfl (Nat.le_of_ble_eq_true rfl) (by omega) (n := 148) rfl ?_
                    show PW zm_X1_readOperand d 148 [(2, .int (f_X1_next I ((I 13 1).toNatClampNeg) ((I 13 2).toNatClampNeg))), (0, .ref 13), (1, .int (nI op))] [] SH ((m_X1_write b ((FO (op + 1) (z_up I 13 2 ((I 13 2) + 1))).2) (((FO (op + 1) (z_up I 13 2 ((I 13 2) + 1))).2 13 6).toNatClampNeg) (-33)), L, z_R b) 0 0 _
                    refine p_iconst (z_dec zd_X1_readOperand 85 rfl) (v := 1) (by decide) (n := 149) rfl ?_
                    exact p_zret (z_dec zd_X1_readOperand 86 rfl) rfl (Or.inr rfl) ⟨(by unfold f_X1_readOperand; rw [if_pos h9, if_pos h22, if_neg h46, if_pos h52, if_pos h64, if_neg h82, if_neg h126, if_pos h135]), rfl, (z_3 (by unfold m_X1_readOperand; rw [if_pos h9, if_pos h22, if_neg h46, if_pos h52, if_pos h64, if_neg h82, if_neg h126, if_pos h135]) rfl)⟩
                · refine p_iconst (z_dec zd_X1_readOperand 75 rfl) (v := 0) (by decide) (n := 130) rfl ?_
                  exact p_zret (z_dec zd_X1_readOperand 76 rfl) rfl (Or.inl rfl) ⟨(by unfold f_X1_readOperand; rw [if_pos h9, if_pos h22, if_neg h46, if_pos h52, if_pos h64, if_neg h82, if_pos h126]), rfl, (z_3 (by unfold m_X1_readOperand; rw [if_pos h9, if_pos h22, if_neg h46, if_pos h52, if_pos h64, if_neg h82, if_pos h126]) rfl)⟩
              · refine p_aload_n (z_dec zd_X1_readOperand 48 rfl) rfl 1 rfl (n := 86) rfl ?_
                refine p_iconst (z_dec zd_X1_readOperand 49 rfl) (v := 0) (by decide) (n := 87) rfl ?_
                refine p_iload_n (z_dec zd_X1_readOperand 50 rfl) rfl 2 rfl (n := 88) rfl ?_
                refine p_iconst (z_dec zd_X1_readOperand 51 rfl) (v := 1) (by decide) (n := 89) rfl ?_
                refine p_iadd (z_dec zd_X1_readOperand 52 rfl) (n := 90) rfl ?_
                refine z_lv rfl (show _ = [.int (nI (op + 1)), .int 0, .ref 13] from (by rw [nI_1])) rfl ?_
                refine q_callV (As := [.int (nI 0), .int (nI (op + 1))]) (rest := []) (z_dec zd_X1_readOperand 53 rfl) zk_X1_51 zv_X1_readLevel (hFL 0 (op + 1) (z_up I 13 2 ((I 13 2) + 1)) (by omega) (by omega) (by unfold z_mL at *; omega) hP79) rfl ⟨_, _, rfl⟩ rfl rfl (Nat.le_of_ble_eq_true rfl) (by omega) (n := 93) rfl ?_
                show PW zm_X1_readOperand d 93 [(2, .int (f_X1_next I ((I 13 1).toNatClampNeg) ((I 13 2).toNatClampNeg))), (0, .ref 13), (1, .int (nI op))] [.int ((FL 0 (op + 1) (z_up I 13 2 ((I 13 2) + 1))).1)] SH ((FL 0 (op + 1) (z_up I 13 2 ((I 13 2) + 1))).2, L, z_R b) 0 0 _
                have hP93 : z_P ((FL 0 (op + 1) (z_up I 13 2 ((I 13 2) + 1))).2) := hPL _ _ _ (by omega) hP79
                refine p_if_eq (z_dec zd_X1_readOperand 54 rfl) (t := 105) (by decide) (n := 96) rfl (fun h93 => ?_) (fun h93 => ?_)
                · refine p_iconst (z_dec zd_X1_readOperand 59 rfl) (v := 0) (by decide) (n := 106) rfl ?_
                  exact p_zret (z_dec zd_X1_readOperand 60 rfl) rfl (Or.inl rfl) ⟨(by unfold f_X1_readOperand; rw [if_pos h9, if_pos h22, if_neg h46, if_pos h52, if_pos h64, if_pos h82, if_pos h93]), rfl, (z_3 (by unfold m_X1_readOperand; rw [if_pos h9, if_pos h22, if_neg h46, if_pos h52, if_pos h64, if_pos h82, if_pos h93]) rfl)⟩
                · refine p_aload_n (z_dec zd_X1_readOperand 55 rfl) rfl 1 rfl (n := 97) rfl ?_
                  refine q_callV (As := []) (rest := []) (z_dec zd_X1_readOperand 56 rfl) zk_X1_47 zv_X1_next (c_X1_next (d - 1) (by omega) b ((FL 0 (op + 1) (z_up I 13 2 ((I 13 2) + 1))).2) L (((FL 0 (op + 1) (z_up I 13 2 ((I 13 2) + 1))).2 13 1).toNatClampNeg) hP93.1.1 hP93.1.2 (((FL 0 (op + 1) (z_up I 13 2 ((I 13 2) + 1))).2 13 2).toNatClampNeg) hP93.2.1.1 (Nat.le_trans hP93.2.1.2 hP93.1.2)) rfl ⟨_, _, rfl⟩ rfl rfl (Nat.le_of_ble_eq_true rfl) (by omega) (n := 100) rfl ?_
                  show PW zm_X1_readOperand d 100 [(2, .int (f_X1_next I ((I 13 1).toNatClampNeg) ((I 13 2).toNatClampNeg))), (0, .ref 13), (1, .int (nI op))] [.int (f_X1_next ((FL 0 (op + 1) (z_up I 13 2 ((I 13 2) + 1))).2) (((FL 0 (op + 1) (z_up I 13 2 ((I 13 2) + 1))).2 13 1).toNatClampNeg) (((FL 0 (op + 1) (z_up I 13 2 ((I 13 2) + 1))).2 13 2).toNatClampNeg))] SH ((FL 0 (op + 1) (z_up I 13 2 ((I 13 2) + 1))).2, L, z_R b) 0 0 _
                  refine p_bipush (z_dec zd_X1_readOperand 57 rfl) (v := 41) (by decide) (n := 102) rfl ?_
                  refine p_icmp_eq (z_dec zd_X1_readOperand 58 rfl) (t := 107) (by decide) (n := 105) rfl (fun h102 => ?_) (fun h102 => ?_)
                  · refine p_aload_n (z_dec zd_X1_readOperand 61 rfl) rfl 1 rfl (n := 108) rfl ?_
                    refine p_dup (z_dec zd_X1_readOperand 62 rfl) rfl (n := 109) rfl ?_
                    refine q_getI (z_dec zd_X1_readOperand 63 rfl) zf_X1_19 (by decide) rfl (v := ((FL 0 (op + 1) (z_up I 13 2 ((I 13 2) + 1))).2 13 2)) rfl (n := 112) rfl ?_
                    refine p_iconst (z_dec zd_X1_readOperand 64 rfl) (v := 1) (by decide) (n := 113) rfl ?_
                    refine p_iadd (z_dec zd_X1_readOperand 65 rfl) (n := 114) rfl ?_
                    refine q_putI (z_dec zd_X1_readOperand 66 rfl) zp_X1_19 (fun q => by cases q) rfl (n := 117) rfl ?_
                    refine p_iconst (z_dec zd_X1_readOperand 67 rfl) (v := 1) (by decide) (n := 118) rfl ?_
                    exact p_zret (z_dec zd_X1_readOperand 68 rfl) rfl (Or.inr rfl) ⟨(by unfold f_X1_readOperand; rw [if_pos h9, if_pos h22, if_neg h46, if_pos h52, if_pos h64, if_pos h82, if_neg h93, if_pos h102]), rfl, (z_3 (by unfold m_X1_readOperand; rw [if_pos h9, if_pos h22, if_neg h46, if_pos h52, if_pos h64, if_pos h82, if_neg h93, if_pos h102]) rfl)⟩
                  · refine p_iconst (z_dec zd_X1_readOperand 59 rfl) (v := 0) (by decide) (n := 106) rfl ?_
                    exact p_zret (z_dec zd_X1_readOperand 60 rfl) rfl (Or.inl rfl) ⟨(by unfold f_X1_readOperand; rw [if_pos h9, if_pos h22, if_neg h46, if_pos h52, if_pos h64, if_pos h82, if_neg h93, if_neg h102]), rfl, (z_3 (by unfold m_X1_readOperand; rw [if_pos h9, if_pos h22, if_neg h46, if_pos h52, if_pos h64, if_pos h82, if_neg h93, if_neg h102]) rfl)⟩
            · refine p_iconst (z_dec zd_X1_readOperand 37 rfl) (v := 0) (by decide) (n := 68) rfl ?_
              exact p_zret (z_dec zd_X1_readOperand 38 rfl) rfl (Or.inl rfl) ⟨(by unfold f_X1_readOperand; rw [if_pos h9, if_pos h22, if_neg h46, if_pos h52, if_neg h64]), rfl, (z_3 (by unfold m_X1_readOperand; rw [if_pos h9, if_pos h22, if_neg h46, if_pos h52, if_neg h64]) rfl)⟩
          · refine p_iload_n (z_dec zd_X1_readOperand 31 rfl) rfl 0 rfl (n := 56) rfl ?_
            refine p_bipush (z_dec zd_X1_readOperand 32 rfl) (v := 45) (by decide) (n := 58) rfl ?_
            refine p_icmp_ne (z_dec zd_X1_readOperand 33 rfl) (t := 67) (by decide) (n := 61) rfl (fun h58 => ?_) (fun h58 => ?_)
            · refine p_iconst (z_dec zd_X1_readOperand 37 rfl) (v := 0) (by decide) (n := 68) rfl ?_
              exact p_zret (z_dec zd_X1_readOperand 38 rfl) rfl (Or.inl rfl) ⟨(by unfold f_X1_readOperand; rw [if_pos h9, if_pos h22, if_neg h46, if_neg h52, if_neg h58]), rfl, (z_3 (by unfold m_X1_readOperand; rw [if_pos h9, if_pos h22, if_neg h46, if_neg h52, if_neg h58]) rfl)⟩
            · refine p_iload_n (z_dec zd_X1_readOperand 34 rfl) rfl 2 rfl (n := 62) rfl ?_
              refine p_bipush (z_dec zd_X1_readOperand 35 rfl) (v := 6) (by decide) (n := 64) rfl ?_
              refine p_icmp_lt (z_dec zd_X1_readOperand 36 rfl) (t := 69) (by decide) (n := 67) rfl (fun h64 => ?_) (fun h64 => ?_)
              · have ho6 : op < 6 := z_lt (b := 6) h64
                unfold z_mO at hn
                refine p_aload_n (z_dec zd_X1_readOperand 39 rfl) rfl 1 rfl (n := 70) rfl ?_
                refine p_dup (z_dec zd_X1_readOperand 40 rfl) rfl (n := 71) rfl ?_
                refine q_getI (z_dec zd_X1_readOperand 41 rfl) zf_X1_19 (by decide) rfl (v := (I 13 2)) rfl (n := 74) rfl ?_
                refine p_iconst (z_dec zd_X1_readOperand 42 rfl) (v := 1) (by decide) (n := 75) rfl ?_
                refine p_iadd (z_dec zd_X1_readOperand 43 rfl) (n := 76) rfl ?_
                refine q_putI (z_dec zd_X1_readOperand 44 rfl) zp_X1_19 (fun q => by cases q) rfl (n := 79) rfl ?_
                have hP79 : z_P ((z_up I 13 2 ((I 13 2) + 1))) := z_P_av hP (by intro q; have q2 : f_X1_next I _ _ = -1 := q; first | exact absurd (q2.symm.trans h46) (by decide) | exact absurd (q2.symm.trans h52) (by decide) | exact absurd (q2.symm.trans h58) (by decide))
                refine p_iload_n (z_dec zd_X1_readOperand 45 rfl) rfl 0 rfl (n := 80) rfl ?_
                refine p_bipush (z_dec zd_X1_readOperand 46 rfl) (v := 40) (by decide) (n := 82) rfl ?_
                refine p_icmp_ne (z_dec zd_X1_readOperand 47 rfl) (t := 119) (by decide) (n := 85) rfl (fun h82 => ?_) (fun h82 => ?_)
                · refine p_aload_n (z_dec zd_X1_readOperand 69 rfl) rfl 1 rfl (n := 120) rfl ?_
                  refine p_iload_n (z_dec zd_X1_readOperand 70 rfl) rfl 2 rfl (n := 121) rfl ?_
                  refine p_iconst (z_dec zd_X1_readOperand 71 rfl) (v := 1) (by decide) (n := 122) rfl ?_
                  refine p_iadd (z_dec zd_X1_readOperand 72 rfl) (n := 123) rfl ?_
                  refine z_lv rfl (show _ = [.int (nI (op + 1)), .ref 13] from (by rw [nI_1])) rfl ?_
                  refine q_callV (As := [.int (nI (op + 1))]) (rest := []) (z_dec zd_X1_readOperand 73 rfl) zk_X1_59 zv_X1_readOperand (hFO (op + 1) (z_up I 13 2 ((I 13 2) + 1)) (by omega) (by unfold z_mO z_mL at *; omega) hP79) rfl ⟨_, _, rfl⟩ rfl rfl (Nat.le_of_ble_eq_true rfl) (by omega) (n := 126) rfl ?_
                  show PW zm_X1_readOperand d 126 [(2, .int (f_X1_next I ((I 13 1).toNatClampNeg) ((I 13 2).toNatClampNeg))), (0, .ref 13), (1, .int (nI op))] [.int ((FO (op + 1) (z_up I 13 2 ((I 13 2) + 1))).1)] SH ((FO (op + 1) (z_up I 13 2 ((I 13 2) + 1))).2, L, z_R b) 0 0 _
                  have hP126 : z_P ((FO (op + 1) (z_up I 13 2 ((I 13 2) + 1))).2) := hPO _ _ hP79
                  refine p_if_ne (z_dec zd_X1_readOperand 74 rfl) (t := 131) (by decide) (n := 129) rfl (fun h126 => ?_) (fun h126 => ?_)
                  · refine p_aload_n (z_dec zd_X1_readOperand 77 rfl) rfl 1 rfl (n := 132) rfl ?_
                    refine p_iload_n (z_dec zd_X1_readOperand 78 rfl) rfl 0 rfl (n := 133) rfl ?_
                    refine p_bipush (z_dec zd_X1_readOperand 79 rfl) (v := 33) (by decide) (n := 135) rfl ?_
                    refine p_icmp_ne (z_dec zd_X1_readOperand 80 rfl) (t := 143) (by decide) (n := 138) rfl (fun h135 => ?_) (fun h135 => ?_)
                    · refine p_bipush (z_dec zd_X1_readOperand 83 rfl) (v := (-95)) (by decide) (n := 145) rfl ?_
                      refine q_callV (As := [.int (-95)]) (rest := []) (z_dec zd_X1_readOperand 84 rfl) zk_X1_55 zv_X1_write (c_X1_write (d - 1) (by omega) b ((FO (op + 1) (z_up I 13 2 ((I 13 2) + 1))).2) L (((FO (op + 1) (z_up I 13 2 ((I 13 2) + 1))).2 13 6).toNatClampNeg) hP126.2.2.1 hP126.2.2.2 (-95)) rfl ⟨_, _, rfl⟩ rfl rfl (Nat.le_of_ble_eq_true rfl) (by omega) (n := 148) rfl ?_
                      show PW zm_X1_readOperand d 148 [(2, .int (f_X1_next I ((I 13 1).toNatClampNeg) ((I 13 2).toNatClampNeg))), (0, .ref 13), (1, .int (nI op))] [] SH ((m_X1_write b ((FO (op + 1) (z_up I 13 2 ((I 13 2) + 1))).2) (((FO (op + 1) (z_up I 13 2 ((I 13 2) + 1))).2 13 6).toNatClampNeg) (-95)), L, z_R b) 0 0 _
                      refine p_iconst (z_dec zd_X1_readOperand 85 rfl) (v := 1) (by decide) (n := 149) rfl ?_
                      exact p_zret (z_dec zd_X1_readOperand 86 rfl) rfl (Or.inr rfl) ⟨(by unfold f_X1_readOperand; rw [if_pos h9, if_pos h22, if_neg h46, if_neg h52, if_pos h58, if_pos h64, if_neg h82, if_neg h126, if_neg h135]), rfl, (z_3 (by unfold m_X1_readOperand; rw [if_pos h9, if_pos h22, if_neg h46, if_neg h52, if_pos h58, if_pos h64, if_neg h82, if_neg h126, if_neg h135]) rfl)⟩
                    · refine p_bipush (z_dec zd_X1_readOperand 81 rfl) (v := (-33)) (by decide) (n := 140) rfl ?_
                      refine p_goto (z_dec zd_X1_readOperand 82 rfl) (t := 145) (by decide) ?_
                      refine q_callV (As := [.int (-33)]) (rest := []) (z_dec zd_X1_readOperand 84 rfl) zk_X1_55 zv_X1_write (c_X1_write (d - 1) (by omega) b ((FO (op + 1) (z_up I 13 2 ((I 13 2) + 1))).2) L (((FO (op + 1) (z_up I 13 2 ((I 13 2) + 1))).2 13 6).toNatClampNeg) hP126.2.2.1 hP126.2.2.2 (-33)) rfl ⟨_, _, rfl⟩ rfl rfl (Nat.le_of_ble_eq_true rfl) (by omega) (n := 148) rfl ?_
                      show PW zm_X1_readOperand d 148 [(2, .int (f_X1_next I ((I 13 1).toNatClampNeg) ((I 13 2).toNatClampNeg))), (0, .ref 13), (1, .int (nI op))] [] SH ((m_X1_write b ((FO (op + 1) (z_up I 13 2 ((I 13 2) + 1))).2) (((FO (op + 1) (z_up I 13 2 ((I 13 2) + 1))).2 13 6).toNatClampNeg) (-33)), L, z_R b) 0 0 _
                      refine p_iconst (z_dec zd_X1_readOperand 85 rfl) (v := 1) (by decide) (n := 149) rfl ?_
                      exact p_zret (z_dec zd_X1_readOperand 86 rfl) rfl (Or.inr rfl) ⟨(by unfold f_X1_readOperand; rw [if_pos h9, if_pos h22, if_neg h46, if_neg h52, if_pos h58, if_pos h64, if_neg h82, if_neg h126, if_pos h135]), rfl, (z_3 (by unfold m_X1_readOperand; rw [if_pos h9, if_pos h22, if_neg h46, if_neg h52, if_pos h58, if_pos h64, if_neg h82, if_neg h126, if_pos h135]) rfl)⟩
                  · refine p_iconst (z_dec zd_X1_readOperand 75 rfl) (v := 0) (by decide) (n := 130) rfl ?_
                    exact p_zret (z_dec zd_X1_readOperand 76 rfl) rfl (Or.inl rfl) ⟨(by unfold f_X1_readOperand; rw [if_pos h9, if_pos h22, if_neg h46, if_neg h52, if_pos h58, if_pos h64, if_neg h82, if_pos h126]), rfl, (z_3 (by unfold m_X1_readOperand; rw [if_pos h9, if_pos h22, if_neg h46, if_neg h52, if_pos h58, if_pos h64, if_neg h82, if_pos h126]) rfl)⟩
                · refine p_aload_n (z_dec zd_X1_readOperand 48 rfl) rfl 1 rfl (n := 86) rfl ?_
                  refine p_iconst (z_dec zd_X1_readOperand 49 rfl) (v := 0) (by decide) (n := 87) rfl ?_
                  refine p_iload_n (z_dec zd_X1_readOperand 50 rfl) rfl 2 rfl (n := 88) rfl ?_
                  refine p_iconst (z_dec zd_X1_readOperand 51 rfl) (v := 1) (by decide) (n := 89) rfl ?_
                  refine p_iadd (z_dec zd_X1_readOperand 52 rfl) (n := 90) rfl ?_
                  refine z_lv rfl (show _ = [.int (nI (op + 1)), .int 0, .ref 13] from (by rw [nI_1])) rfl ?_
                  refine q_callV (As := [.int (nI 0), .int (nI (op + 1))]) (rest := []) (z_dec zd_X1_readOperand 53 rfl) zk_X1_51 zv_X1_readLevel (hFL 0 (op + 1) (z_up I 13 2 ((I 13 2) + 1)) (by omega) (by omega) (by unfold z_mL at *; omega) hP79) rfl ⟨_, _, rfl⟩ rfl rfl (Nat.le_of_ble_eq_true rfl) (by omega) (n := 93) rfl ?_
                  show PW zm_X1_readOperand d 93 [(2, .int (f_X1_next I ((I 13 1).toNatClampNeg) ((I 13 2).toNatClampNeg))), (0, .ref 13), (1, .int (nI op))] [.int ((FL 0 (op + 1) (z_up I 13 2 ((I 13 2) + 1))).1)] SH ((FL 0 (op + 1) (z_up I 13 2 ((I 13 2) + 1))).2, L, z_R b) 0 0 _
                  have hP93 : z_P ((FL 0 (op + 1) (z_up I 13 2 ((I 13 2) + 1))).2) := hPL _ _ _ (by omega) hP79
                  refine p_if_eq (z_dec zd_X1_readOperand 54 rfl) (t := 105) (by decide) (n := 96) rfl (fun h93 => ?_) (fun h93 => ?_)
                  · refine p_iconst (z_dec zd_X1_readOperand 59 rfl) (v := 0) (by decide) (n := 106) rfl ?_
                    exact p_zret (z_dec zd_X1_readOperand 60 rfl) rfl (Or.inl rfl) ⟨(by unfold f_X1_readOperand; rw [if_pos h9, if_pos h22, if_neg h46, if_neg h52, if_pos h58, if_pos h64, if_pos h82, if_pos h93]), rfl, (z_3 (by unfold m_X1_readOperand; rw [if_pos h9, if_pos h22, if_neg h46, if_neg h52, if_pos h58, if_pos h64, if_pos h82, if_pos h93]) rfl)⟩
                  · refine p_aload_n (z_dec zd_X1_readOperand 55 rfl) rfl 1 rfl (n := 97) rfl ?_
                    refine q_callV (As := []) (rest := []) (z_dec zd_X1_readOperand 56 rfl) zk_X1_47 zv_X1_next (c_X1_next (d - 1) (by omega) b ((FL 0 (op + 1) (z_up I 13 2 ((I 13 2) + 1))).2) L (((FL 0 (op + 1) (z_up I 13 2 ((I 13 2) + 1))).2 13 1).toNatClampNeg) hP93.1.1 hP93.1.2 (((FL 0 (op + 1) (z_up I 13 2 ((I 13 2) + 1))).2 13 2).toNatClampNeg) hP93.2.1.1 (Nat.le_trans hP93.2.1.2 hP93.1.2)) rfl ⟨_, _, rfl⟩ rfl rfl (Nat.le_of_ble_eq_true rfl) (by omega) (n := 100) rfl ?_
                    show PW zm_X1_readOperand d 100 [(2, .int (f_X1_next I ((I 13 1).toNatClampNeg) ((I 13 2).toNatClampNeg))), (0, .ref 13), (1, .int (nI op))] [.int (f_X1_next ((FL 0 (op + 1) (z_up I 13 2 ((I 13 2) + 1))).2) (((FL 0 (op + 1) (z_up I 13 2 ((I 13 2) + 1))).2 13 1).toNatClampNeg) (((FL 0 (op + 1) (z_up I 13 2 ((I 13 2) + 1))).2 13 2).toNatClampNeg))] SH ((FL 0 (op + 1) (z_up I 13 2 ((I 13 2) + 1))).2, L, z_R b) 0 0 _
                    refine p_bipush (z_dec zd_X1_readOperand 57 rfl) (v := 41) (by decide) (n := 102) rfl ?_
                    refine p_icmp_eq (z_dec zd_X1_readOperand 58 rfl) (t := 107) (by decide) (n := 105) rfl (fun h102 => ?_) (fun h102 => ?_)
                    · refine p_aload_n (z_dec zd_X1_readOperand 61 rfl) rfl 1 rfl (n := 108) rfl ?_
                      refine p_dup (z_dec zd_X1_readOperand 62 rfl) rfl (n := 109) rfl ?_
                      refine q_getI (z_dec zd_X1_readOperand 63 rfl) zf_X1_19 (by decide) rfl (v := ((FL 0 (op + 1) (z_up I 13 2 ((I 13 2) + 1))).2 13 2)) rfl (n := 112) rfl ?_
                      refine p_iconst (z_dec zd_X1_readOperand 64 rfl) (v := 1) (by decide) (n := 113) rfl ?_
                      refine p_iadd (z_dec zd_X1_readOperand 65 rfl) (n := 114) rfl ?_
                      refine q_putI (z_dec zd_X1_readOperand 66 rfl) zp_X1_19 (fun q => by cases q) rfl (n := 117) rfl ?_
                      refine p_iconst (z_dec zd_X1_readOperand 67 rfl) (v := 1) (by decide) (n := 118) rfl ?_
                      exact p_zret (z_dec zd_X1_readOperand 68 rfl) rfl (Or.inr rfl) ⟨(by unfold f_X1_readOperand; rw [if_pos h9, if_pos h22, if_neg h46, if_neg h52, if_pos h58, if_pos h64, if_pos h82, if_neg h93, if_pos h102]), rfl, (z_3 (by unfold m_X1_readOperand; rw [if_pos h9, if_pos h22, if_neg h46, if_neg h52, if_pos h58, if_pos h64, if_pos h82, if_neg h93, if_pos h102]) rfl)⟩
                    · refine p_iconst (z_dec zd_X1_readOperand 59 rfl) (v := 0) (by decide) (n := 106) rfl ?_
                      exact p_zret (z_dec zd_X1_readOperand 60 rfl) rfl (Or.inl rfl) ⟨(by unfold f_X1_readOperand; rw [if_pos h9, if_pos h22, if_neg h46, if_neg h52, if_pos h58, if_pos h64, if_pos h82, if_neg h93, if_neg h102]), rfl, (z_3 (by unfold m_X1_readOperand; rw [if_pos h9, if_pos h22, if_neg h46, if_neg h52, if_pos h58, if_pos h64, if_pos h82, if_neg h93, if_neg h102]) rfl)⟩
              · refine p_iconst (z_dec zd_X1_readOperand 37 rfl) (v := 0) (by decide) (n := 68) rfl ?_
                exact p_zret (z_dec zd_X1_readOperand 38 rfl) rfl (Or.inl rfl) ⟨(by unfold f_X1_readOperand; rw [if_pos h9, if_pos h22, if_neg h46, if_neg h52, if_pos h58, if_neg h64]), rfl, (z_3 (by unfold m_X1_readOperand; rw [if_pos h9, if_pos h22, if_neg h46, if_neg h52, if_pos h58, if_neg h64]) rfl)⟩
      · refine p_aload_n (z_dec zd_X1_readOperand 13 rfl) rfl 1 rfl (n := 26) rfl ?_
        refine p_dup (z_dec zd_X1_readOperand 14 rfl) rfl (n := 27) rfl ?_
        refine q_getI (z_dec zd_X1_readOperand 15 rfl) zf_X1_19 (by decide) rfl (v := (I 13 2)) rfl (n := 30) rfl ?_
        refine p_iconst (z_dec zd_X1_readOperand 16 rfl) (v := 1) (by decide) (n := 31) rfl ?_
        refine p_iadd (z_dec zd_X1_readOperand 17 rfl) (n := 32) rfl ?_
        refine q_putI (z_dec zd_X1_readOperand 18 rfl) zp_X1_19 (fun q => by cases q) rfl (n := 35) rfl ?_
        have hP35 : z_P ((z_up I 13 2 ((I 13 2) + 1))) := z_P_av hP (z_nam h22)
        refine p_aload_n (z_dec zd_X1_readOperand 19 rfl) rfl 1 rfl (n := 36) rfl ?_
        refine p_iload_n (z_dec zd_X1_readOperand 20 rfl) rfl 0 rfl (n := 37) rfl ?_
        refine p_ineg (z_dec zd_X1_readOperand 21 rfl) (n := 38) rfl ?_
        refine q_callV (As := [.int (-(f_X1_next I ((I 13 1).toNatClampNeg) ((I 13 2).toNatClampNeg)))]) (rest := []) (z_dec zd_X1_readOperand 22 rfl) zk_X1_55 zv_X1_write (c_X1_write (d - 1) (by omega) b (z_up I 13 2 ((I 13 2) + 1)) L (((z_up I 13 2 ((I 13 2) + 1)) 13 6).toNatClampNeg) hP35.2.2.1 hP35.2.2.2 (-(f_X1_next I ((I 13 1).toNatClampNeg) ((I 13 2).toNatClampNeg)))) rfl ⟨_, _, rfl⟩ rfl rfl (Nat.le_of_ble_eq_true rfl) (by omega) (n := 41) rfl ?_
        show PW zm_X1_readOperand d 41 [(2, .int (f_X1_next I ((I 13 1).toNatClampNeg) ((I 13 2).toNatClampNeg))), (0, .ref 13), (1, .int (nI op))] [] SH ((m_X1_write b (z_up I 13 2 ((I 13 2) + 1)) (((z_up I 13 2 ((I 13 2) + 1)) 13 6).toNatClampNeg) (-(f_X1_next I ((I 13 1).toNatClampNeg) ((I 13 2).toNatClampNeg)))), L, z_R b) 0 0 _
        refine p_iconst (z_dec zd_X1_readOperand 23 rfl) (v := 1) (by decide) (n := 42) rfl ?_
        exact p_zret (z_dec zd_X1_readOperand 24 rfl) rfl (Or.inr rfl) ⟨(by unfold f_X1_readOperand; rw [if_pos h9, if_neg h22]), rfl, (z_3 (by unfold m_X1_readOperand; rw [if_pos h9, if_neg h22]) rfl)⟩
    · refine p_aload_n (z_dec zd_X1_readOperand 6 rfl) rfl 1 rfl (n := 13) rfl ?_
      refine q_callV (As := []) (rest := []) (z_dec zd_X1_readOperand 7 rfl) zk_X1_70 zv_X1_readNumber (c_X1_readNumber (d - 1) (by omega) b I L hP) rfl ⟨_, _, rfl⟩ rfl rfl (Nat.le_of_ble_eq_true rfl) (by omega) (n := 16) rfl ?_
      show PW zm_X1_readOperand d 16 [(2, .int (f_X1_next I ((I 13 1).toNatClampNeg) ((I 13 2).toNatClampNeg))), (0, .ref 13), (1, .int (nI op))] [] SH ((m_X1_readNumber b I), L, z_R b) 0 0 _
      refine p_iconst (z_dec zd_X1_readOperand 8 rfl) (v := 1) (by decide) (n := 17) rfl ?_
      exact p_zret (z_dec zd_X1_readOperand 9 rfl) rfl (Or.inr rfl) ⟨(by unfold f_X1_readOperand; rw [if_neg h9]), rfl, (z_3 (by unfold m_X1_readOperand; rw [if_neg h9]) rfl)⟩
  exact hentry
