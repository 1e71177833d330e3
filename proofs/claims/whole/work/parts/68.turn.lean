def gx_X9_playsFrom_42 (FP : Int32 → (Nat → Nat → Int32) → Int32 × (Nat → Nat → Int32)) (k : Nat) (g : Int32) : Nat → Nat → (Int32) → (Nat → Nat → Int32) → Int32 × (Nat → Nat → Int32)
  | 0, t42, v5, Iv => (v5, Iv)
  | r42 + 1, t42, v5, Iv => if 0 ≤ v5 then if ((nI k) - (nI k) / 2 * 2) = 0 then if (FP (f_X9_soured g (nI t42)) Iv).1 ≤ v5 then gx_X9_playsFrom_42 FP k g r42 (t42 + 1) v5 ((FP (f_X9_soured g (nI t42)) Iv).2) else gx_X9_playsFrom_42 FP k g r42 (t42 + 1) ((FP (f_X9_soured g (nI t42)) Iv).1) ((FP (f_X9_soured g (nI t42)) Iv).2) else if v5 ≤ (FP (f_X9_soured g (nI t42)) Iv).1 then gx_X9_playsFrom_42 FP k g r42 (t42 + 1) v5 ((FP (f_X9_soured g (nI t42)) Iv).2) else gx_X9_playsFrom_42 FP k g r42 (t42 + 1) ((FP (f_X9_soured g (nI t42)) Iv).1) ((FP (f_X9_soured g (nI t42)) Iv).2) else gx_X9_playsFrom_42 FP k g r42 (t42 + 1) ((FP (f_X9_soured g (nI t42)) Iv).1) ((FP (f_X9_soured g (nI t42)) Iv).2)
def f_X9_playsFrom (I : Nat → Nat → Int32) (FP : Int32 → (Nat → Nat → Int32) → Int32 × (Nat → Nat → Int32)) (abu : Int32) (k : Nat) (n : Nat) (g : Int32) : Int32 := if (nI k) = (nI n) then (f_X9_oddsOf (z_up I 62 ((abu - abu / 10 * 10).toNatClampNeg) g) ((abu / 100).toNatClampNeg) (((abu / 10) - (abu / 10) / 10 * 10).toNatClampNeg) ((abu - abu / 10 * 10).toNatClampNeg)) else (gx_X9_playsFrom_42 FP k g 3 0 (-1) I).1
def m_X9_playsFrom (I : Nat → Nat → Int32) (FP : Int32 → (Nat → Nat → Int32) → Int32 × (Nat → Nat → Int32)) (abu : Int32) (k : Nat) (n : Nat) (g : Int32) : Nat → Nat → Int32 := if (nI k) = (nI n) then (m_X9_oddsOf (z_up I 62 ((abu - abu / 10 * 10).toNatClampNeg) g) ((abu / 100).toNatClampNeg) (((abu / 10) - (abu / 10) / 10 * 10).toNatClampNeg) ((abu - abu / 10 * 10).toNatClampNeg)) else (gx_X9_playsFrom_42 FP k g 3 0 (-1) I).2
set_option maxHeartbeats 1000000 in
set_option maxRecDepth 100000 in
theorem c_X9_playsFrom (d : Nat) (hd : 56 ≤ d) (b : Bool) (I : Nat → Nat → Int32) (L : Nat → Nat → Int64) (np : Nat) (hn10 : np ≤ 10) (hG : z_G np I) (abu : Int32) (hu0 : ¬ f_X9_isAbu np abu = 0) (k : Nat) (hk5 : k ≤ 5) (n : Nat) (hn5 : n ≤ 5) (g : Int32) (FP : Int32 → (Nat → Nat → Int32) → Int32 × (Nat → Nat → Int32)) (hFP : ∀ (g : Int32) (J : (Nat → Nat → Int32)), ¬ nI k = nI n → z_G np J → z_CT zm_X9_playsFrom (d - 1) [.ref 54, .int abu, .int (nI (k + 1)), .int (nI n), .int g] SH (J, L, z_R b) 0 0 (z_ret (some (.int (FP g J).1)) ((FP g J).2, L, z_R b))) (hGP : ∀ (g : Int32) (J : (Nat → Nat → Int32)), z_G np J → z_G np (FP g J).2) : z_CT zm_X9_playsFrom d [.ref 54, .int abu, .int (nI k), .int (nI n), .int g] SH (I, L, z_R b) 0 0 (z_ret (some (.int (f_X9_playsFrom I FP abu k n g))) ((m_X9_playsFrom I FP abu k n g), L, z_R b)) := by
  refine z_enter (by decide +kernel) (Nat.le_of_ble_eq_true rfl) ?_
  have hentry : PW zm_X9_playsFrom d 0 [(0, .ref 54), (1, .int abu), (2, .int (nI k)), (3, .int (nI n)), (4, .int g)] [] SH (I, L, z_R b) 0 0 (z_ret (some (.int (f_X9_playsFrom I FP abu k n g))) ((m_X9_playsFrom I FP abu k n g), L, z_R b)) := by
    have hu := z_abuR hn10 hu0
    refine p_iload_n (z_dec zd_X9_playsFrom 0 rfl) rfl 2 rfl (n := 1) rfl ?_
    refine p_iload_n (z_dec zd_X9_playsFrom 1 rfl) rfl 3 rfl (n := 2) rfl ?_
    refine p_icmp_ne (z_dec zd_X9_playsFrom 2 rfl) (t := 36) (by decide) (n := 5) rfl (fun h2 => ?_) (fun h2 => ?_)
    · refine p_iconst (z_dec zd_X9_playsFrom 24 rfl) (v := (-1)) (by decide) (n := 37) rfl ?_
      refine p_istore (z_dec zd_X9_playsFrom 25 rfl) (lv2 := [(5, .int (-1)), (0, .ref 54), (1, .int abu), (2, .int (nI k)), (3, .int (nI n)), (4, .int g)]) (by decide) rfl (n := 39) rfl ?_
      refine p_iconst (z_dec zd_X9_playsFrom 26 rfl) (v := 0) (by decide) (n := 40) rfl ?_
      refine p_istore (z_dec zd_X9_playsFrom 27 rfl) (lv2 := [(6, .int 0), (5, .int (-1)), (0, .ref 54), (1, .int abu), (2, .int (nI k)), (3, .int (nI n)), (4, .int g)]) (by decide) rfl (n := 42) rfl ?_
      have hL42 : ∀ (r42 t42 : Nat) (v5 : Int32) (Iv : Nat → Nat → Int32), t42 + r42 = 3 → z_G np Iv → PW zm_X9_playsFrom d 42 [(6, .int (nI t42)), (5, .int v5), (0, .ref 54), (1, .int abu), (2, .int (nI k)), (3, .int (nI n)), (4, .int g)] [] SH (Iv, L, z_R b) 0 0 (z_ret (some (.int (gx_X9_playsFrom_42 FP k g r42 t42 v5 Iv).1)) ((gx_X9_playsFrom_42 FP k g r42 t42 v5 Iv).2, L, z_R b)) := by
        intro r42
        induction r42 with
        | zero =>
          intro t42 v5 Iv ht42 hlo
          refine p_iload (z_dec zd_X9_playsFrom 28 rfl) 0 rfl (n := 44) rfl ?_
          refine p_iconst (z_dec zd_X9_playsFrom 29 rfl) (v := 3) (by decide) (n := 45) rfl ?_
          refine p_icmp_ge (z_dec zd_X9_playsFrom 30 rfl) (t := 121) (by decide) (n := 48) rfl (fun h45 => ?_) (fun h45 => ?_)
          · refine p_iload (z_dec zd_X9_playsFrom 66 rfl) 1 rfl (n := 123) rfl ?_
            exact p_iret (z_dec zd_X9_playsFrom 67 rfl) rfl ⟨rfl, rfl, (z_3 rfl rfl)⟩
          · exact absurd (z_nge (a := 3) h45) (by omega)
        | succ r42 ih42 =>
          intro t42 v5 Iv ht42 hlo
          refine p_iload (z_dec zd_X9_playsFrom 28 rfl) 0 rfl (n := 44) rfl ?_
          refine p_iconst (z_dec zd_X9_playsFrom 29 rfl) (v := 3) (by decide) (n := 45) rfl ?_
          refine p_icmp_ge (z_dec zd_X9_playsFrom 30 rfl) (t := 121) (by decide) (n := 48) rfl (fun h45 => ?_) (fun h45 => ?_)
          · exact absurd (z_ge (a := 3) h45) (by omega)
          · have hx42 : t42 < 3 := by omega
            refine p_aload_n (z_dec zd_X9_playsFrom 31 rfl) rfl 2 rfl (n := 49) rfl ?_
            refine p_iload_n (z_dec zd_X9_playsFrom 32 rfl) rfl 3 rfl (n := 50) rfl ?_
            refine p_iload_n (z_dec zd_X9_playsFrom 33 rfl) rfl 4 rfl (n := 51) rfl ?_
            refine p_iconst (z_dec zd_X9_playsFrom 34 rfl) (v := 1) (by decide) (n := 52) rfl ?_
            refine p_iadd (z_dec zd_X9_playsFrom 35 rfl) (n := 53) rfl ?_
            refine z_lv rfl (show _ = [.int (nI (k + 1)), .int abu, .ref 54] from (by rw [nI_1])) rfl ?_
            refine p_iload_n (z_dec zd_X9_playsFrom 36 rfl) rfl 5 rfl (n := 54) rfl ?_
            refine p_iload (z_dec zd_X9_playsFrom 37 rfl) 6 rfl (n := 56) rfl ?_
            refine p_iload (z_dec zd_X9_playsFrom 38 rfl) 0 rfl (n := 58) rfl ?_
            refine q_callS (As := [.int g, .int (nI t42)]) (rest := [.int (nI n), .int (nI (k + 1)), .int abu, .ref 54]) (z_dec zd_X9_playsFrom 39 rfl) zk_X9_272 zs_X9_soured (c_X9_soured (d - 1) (by omega) b Iv L g (nI t42)) rfl rfl (Nat.le_of_ble_eq_true rfl) (by omega) (n := 61) rfl ?_
            show PW zm_X9_playsFrom d 61 [(6, .int (nI t42)), (5, .int v5), (0, .ref 54), (1, .int abu), (2, .int (nI k)), (3, .int (nI n)), (4, .int g)] [.int (f_X9_soured g (nI t42)), .int (nI n), .int (nI (k + 1)), .int abu, .ref 54] SH (Iv, L, z_R b) 0 0 _
            refine q_callV (As := [.int abu, .int (nI (k + 1)), .int (nI n), .int (f_X9_soured g (nI t42))]) (rest := []) (z_dec zd_X9_playsFrom 40 rfl) zk_X9_275 zv_X9_playsFrom (hFP (f_X9_soured g (nI t42)) Iv h2 hlo) rfl ⟨_, _, rfl⟩ rfl rfl (Nat.le_of_ble_eq_true rfl) (by omega) (n := 64) rfl ?_
            show PW zm_X9_playsFrom d 64 [(6, .int (nI t42)), (5, .int v5), (0, .ref 54), (1, .int abu), (2, .int (nI k)), (3, .int (nI n)), (4, .int g)] [.int ((FP (f_X9_soured g (nI t42)) Iv).1)] SH ((FP (f_X9_soured g (nI t42)) Iv).2, L, z_R b) 0 0 _
            have hP64 : z_G np ((FP (f_X9_soured g (nI t42)) Iv).2) := hGP _ _ hlo
            refine p_istore (z_dec zd_X9_playsFrom 41 rfl) (lv2 := [(7, .int ((FP (f_X9_soured g (nI t42)) Iv).1)), (6, .int (nI t42)), (5, .int v5), (0, .ref 54), (1, .int abu), (2, .int (nI k)), (3, .int (nI n)), (4, .int g)]) (by decide) rfl (n := 66) rfl ?_
            refine p_iload (z_dec zd_X9_playsFrom 42 rfl) 2 rfl (n := 68) rfl ?_
            refine p_if_ge (z_dec zd_X9_playsFrom 43 rfl) (t := 76) (by decide) (n := 71) rfl (fun h68 => ?_) (fun h68 => ?_)
            · refine p_iload_n (z_dec zd_X9_playsFrom 46 rfl) rfl 5 rfl (n := 77) rfl ?_
              refine p_iconst (z_dec zd_X9_playsFrom 47 rfl) (v := 2) (by decide) (n := 78) rfl ?_
              refine p_irem (z_dec zd_X9_playsFrom 48 rfl) (by decide) (n := 79) rfl ?_
              refine p_if_ne (z_dec zd_X9_playsFrom 49 rfl) (t := 99) (by decide) (n := 82) rfl (fun h79 => ?_) (fun h79 => ?_)
              · refine p_iload (z_dec zd_X9_playsFrom 57 rfl) 0 rfl (n := 101) rfl ?_
                refine p_iload (z_dec zd_X9_playsFrom 58 rfl) 2 rfl (n := 103) rfl ?_
                refine p_icmp_ge (z_dec zd_X9_playsFrom 59 rfl) (t := 111) (by decide) (n := 106) rfl (fun h103 => ?_) (fun h103 => ?_)
                · refine p_iload (z_dec zd_X9_playsFrom 62 rfl) 2 rfl (n := 113) rfl ?_
                  refine p_istore (z_dec zd_X9_playsFrom 63 rfl) (lv2 := [(5, .int v5), (7, .int ((FP (f_X9_soured g (nI t42)) Iv).1)), (6, .int (nI t42)), (0, .ref 54), (1, .int abu), (2, .int (nI k)), (3, .int (nI n)), (4, .int g)]) (by decide) rfl (n := 115) rfl ?_
                  refine p_iinc (z_dec zd_X9_playsFrom 64 rfl) 2 rfl (v := (nI (t42 + 1))) (nI_1 _) (lv2 := [(6, .int (nI (t42 + 1))), (5, .int v5), (7, .int ((FP (f_X9_soured g (nI t42)) Iv).1)), (0, .ref 54), (1, .int abu), (2, .int (nI k)), (3, .int (nI n)), (4, .int g)]) (by decide) rfl (n := 118) rfl ?_
                  refine p_goto (z_dec zd_X9_playsFrom 65 rfl) (t := 42) (by decide) ?_
                  refine z_sub (lv' := [(6, .int (nI (t42 + 1))), (5, .int v5), (0, .ref 54), (1, .int abu), (2, .int (nI k)), (3, .int (nI n)), (4, .int g)]) [0, 1, 3, 4, 5, 6, 7] rfl ?_
                  rw [show gx_X9_playsFrom_42 FP k g (r42 + 1) t42 v5 Iv = gx_X9_playsFrom_42 FP k g r42 (t42 + 1) v5 ((FP (f_X9_soured g (nI t42)) Iv).2) from by (conv => lhs; unfold gx_X9_playsFrom_42); rw [if_pos h68, if_neg h79, if_pos h103]]
                  exact ih42 (t42 + 1) v5 ((FP (f_X9_soured g (nI t42)) Iv).2) (by omega) hP64
                · refine p_iload (z_dec zd_X9_playsFrom 60 rfl) 0 rfl (n := 108) rfl ?_
                  refine p_goto (z_dec zd_X9_playsFrom 61 rfl) (t := 113) (by decide) ?_
                  refine p_istore (z_dec zd_X9_playsFrom 63 rfl) (lv2 := [(5, .int ((FP (f_X9_soured g (nI t42)) Iv).1)), (7, .int ((FP (f_X9_soured g (nI t42)) Iv).1)), (6, .int (nI t42)), (0, .ref 54), (1, .int abu), (2, .int (nI k)), (3, .int (nI n)), (4, .int g)]) (by decide) rfl (n := 115) rfl ?_
                  refine p_iinc (z_dec zd_X9_playsFrom 64 rfl) 2 rfl (v := (nI (t42 + 1))) (nI_1 _) (lv2 := [(6, .int (nI (t42 + 1))), (5, .int ((FP (f_X9_soured g (nI t42)) Iv).1)), (7, .int ((FP (f_X9_soured g (nI t42)) Iv).1)), (0, .ref 54), (1, .int abu), (2, .int (nI k)), (3, .int (nI n)), (4, .int g)]) (by decide) rfl (n := 118) rfl ?_
                  refine p_goto (z_dec zd_X9_playsFrom 65 rfl) (t := 42) (by decide) ?_
                  refine z_sub (lv' := [(6, .int (nI (t42 + 1))), (5, .int ((FP (f_X9_soured g (nI t42)) Iv).1)), (0, .ref 54), (1, .int abu), (2, .int (nI k)), (3, .int (nI n)), (4, .int g)]) [0, 1, 3, 4, 5, 6, 7] rfl ?_
                  rw [show gx_X9_playsFrom_42 FP k g (r42 + 1) t42 v5 Iv = gx_X9_playsFrom_42 FP k g r42 (t42 + 1) ((FP (f_X9_soured g (nI t42)) Iv).1) ((FP (f_X9_soured g (nI t42)) Iv).2) from by (conv => lhs; unfold gx_X9_playsFrom_42); rw [if_pos h68, if_neg h79, if_neg h103]]
                  exact ih42 (t42 + 1) ((FP (f_X9_soured g (nI t42)) Iv).1) ((FP (f_X9_soured g (nI t42)) Iv).2) (by omega) hP64
              · refine p_iload (z_dec zd_X9_playsFrom 50 rfl) 0 rfl (n := 84) rfl ?_
                refine p_iload (z_dec zd_X9_playsFrom 51 rfl) 2 rfl (n := 86) rfl ?_
                refine p_icmp_le (z_dec zd_X9_playsFrom 52 rfl) (t := 94) (by decide) (n := 89) rfl (fun h86 => ?_) (fun h86 => ?_)
                · refine p_iload (z_dec zd_X9_playsFrom 55 rfl) 2 rfl (n := 96) rfl ?_
                  refine p_goto (z_dec zd_X9_playsFrom 56 rfl) (t := 113) (by decide) ?_
                  refine p_istore (z_dec zd_X9_playsFrom 63 rfl) (lv2 := [(5, .int v5), (7, .int ((FP (f_X9_soured g (nI t42)) Iv).1)), (6, .int (nI t42)), (0, .ref 54), (1, .int abu), (2, .int (nI k)), (3, .int (nI n)), (4, .int g)]) (by decide) rfl (n := 115) rfl ?_
                  refine p_iinc (z_dec zd_X9_playsFrom 64 rfl) 2 rfl (v := (nI (t42 + 1))) (nI_1 _) (lv2 := [(6, .int (nI (t42 + 1))), (5, .int v5), (7, .int ((FP (f_X9_soured g (nI t42)) Iv).1)), (0, .ref 54), (1, .int abu), (2, .int (nI k)), (3, .int (nI n)), (4, .int g)]) (by decide) rfl (n := 118) rfl ?_
                  refine p_goto (z_dec zd_X9_playsFrom 65 rfl) (t := 42) (by decide) ?_
                  refine z_sub (lv' := [(6, .int (nI (t42 + 1))), (5, .int v5), (0, .ref 54), (1, .int abu), (2, .int (nI k)), (3, .int (nI n)), (4, .int g)]) [0, 1, 3, 4, 5, 6, 7] rfl ?_
                  rw [show gx_X9_playsFrom_42 FP k g (r42 + 1) t42 v5 Iv = gx_X9_playsFrom_42 FP k g r42 (t42 + 1) v5 ((FP (f_X9_soured g (nI t42)) Iv).2) from by (conv => lhs; unfold gx_X9_playsFrom_42); rw [if_pos h68, if_pos h79, if_pos h86]]
                  exact ih42 (t42 + 1) v5 ((FP (f_X9_soured g (nI t42)) Iv).2) (by omega) hP64
                · refine p_iload (z_dec zd_X9_playsFrom 53 rfl) 0 rfl (n := 91) rfl ?_
                  refine p_goto (z_dec zd_X9_playsFrom 54 rfl) (t := 113) (by decide) ?_
                  refine p_istore (z_dec zd_X9_playsFrom 63 rfl) (lv2 := [(5, .int ((FP (f_X9_soured g (nI t42)) Iv).1)), (7, .int ((FP (f_X9_soured g (nI t42)) Iv).1)), (6, .int (nI t42)), (0, .ref 54), (1, .int abu), (2, .int (nI k)), (3, .int (nI n)), (4, .int g)]) (by decide) rfl (n := 115) rfl ?_
                  refine p_iinc (z_dec zd_X9_playsFrom 64 rfl) 2 rfl (v := (nI (t42 + 1))) (nI_1 _) (lv2 := [(6, .int (nI (t42 + 1))), (5, .int ((FP (f_X9_soured g (nI t42)) Iv).1)), (7, .int ((FP (f_X9_soured g (nI t42)) Iv).1)), (0, .ref 54), (1, .int abu), (2, .int (nI k)), (3, .int (nI n)), (4, .int g)]) (by decide) rfl (n := 118) rfl ?_
                  refine p_goto (z_dec zd_X9_playsFrom 65 rfl) (t := 42) (by decide) ?_
                  refine z_sub (lv' := [(6, .int (nI (t42 + 1))), (5, .int ((FP (f_X9_soured g (nI t42)) Iv).1)), (0, .ref 54), (1, .int abu), (2, .int (nI k)), (3, .int (nI n)), (4, .int g)]) [0, 1, 3, 4, 5, 6, 7] rfl ?_
                  rw [show gx_X9_playsFrom_42 FP k g (r42 + 1) t42 v5 Iv = gx_X9_playsFrom_42 FP k g r42 (t42 + 1) ((FP (f_X9_soured g (nI t42)) Iv).1) ((FP (f_X9_soured g (nI t42)) Iv).2) from by (conv => lhs; unfold gx_X9_playsFrom_42); rw [if_pos h68, if_pos h79, if_neg h86]]
                  exact ih42 (t42 + 1) ((FP (f_X9_soured g (nI t42)) Iv).1) ((FP (f_X9_soured g (nI t42)) Iv).2) (by omega) hP64
            · refine p_iload (z_dec zd_X9_playsFrom 44 rfl) 0 rfl (n := 73) rfl ?_
              refine p_goto (z_dec zd_X9_playsFrom 45 rfl) (t := 113) (by decide) ?_
              refine p_istore (z_dec zd_X9_playsFrom 63 rfl) (lv2 := [(5, .int ((FP (f_X9_soured g (nI t42)) Iv).1)), (7, .int ((FP (f_X9_soured g (nI t42)) Iv).1)), (6, .int (nI t42)), (0, .ref 54), (1, .int abu), (2, .int (nI k)), (3, .int (nI n)), (4, .int g)]) (by decide) rfl (n := 115) rfl ?_
              refine p_iinc (z_dec zd_X9_playsFrom 64 rfl) 2 rfl (v := (nI (t42 + 1))) (nI_1 _) (lv2 := [(6, .int (nI (t42 + 1))), (5, .int ((FP (f_X9_soured g (nI t42)) Iv).1)), (7, .int ((FP (f_X9_soured g (nI t42)) Iv).1)), (0, .ref 54), (1, .int abu), (2, .int (nI k)), (3, .int (nI n)), (4, .int g)]) (by decide) rfl (n := 118) rfl ?_
              refine p_goto (z_dec zd_X9_playsFrom 65 rfl) (t := 42) (by decide) ?_
              refine z_sub (lv' := [(6, .int (nI (t42 + 1))), (5, .int ((FP (f_X9_soured g (nI t42)) Iv).1)), (0, .ref 54), (1, .int abu), (2, .int (nI k)), (3, .int (nI n)), (4, .int g)]) [0, 1, 3, 4, 5, 6, 7] rfl ?_
              rw [show gx_X9_playsFrom_42 FP k g (r42 + 1) t42 v5 Iv = gx_X9_playsFrom_42 FP k g r42 (t42 + 1) ((FP (f_X9_soured g (nI t42)) Iv).1) ((FP (f_X9_soured g (nI t42)) Iv).2) from by (conv => lhs; unfold gx_X9_playsFrom_42); rw [if_neg h68]]
              exact ih42 (t42 + 1) ((FP (f_X9_soured g (nI t42)) Iv).1) ((FP (f_X9_soured g (nI t42)) Iv).2) (by omega) hP64
      exact (by have q := (hL42 3 0 (-1) I (by omega) hG); (rw [show f_X9_playsFrom I FP abu k n g = _ from by unfold f_X9_playsFrom; rw [if_neg h2]]); (rw [show m_X9_playsFrom I FP abu k n g = _ from by unfold m_X9_playsFrom; rw [if_neg h2]]); exact q)
    · have hu := z_abuR hn10 hu0
      refine p_aload_n (z_dec zd_X9_playsFrom 3 rfl) rfl 0 rfl (n := 6) rfl ?_
      refine q_getR (z_dec zd_X9_playsFrom 4 rfl) zf_X9_31 (i := 62) rfl rfl (n := 9) rfl ?_
      refine p_iload_n (z_dec zd_X9_playsFrom 5 rfl) rfl 1 rfl (n := 10) rfl ?_
      refine p_bipush (z_dec zd_X9_playsFrom 6 rfl) (v := 10) (by decide) (n := 12) rfl ?_
      refine p_irem (z_dec zd_X9_playsFrom 7 rfl) (by decide) (n := 13) rfl ?_
      refine p_iload (z_dec zd_X9_playsFrom 8 rfl) 4 rfl (n := 15) rfl ?_
      refine q_iast (z_dec zd_X9_playsFrom 9 rfl) rfl (by decide) ((abu - abu / 10 * 10).toNatClampNeg) hu.2.2.1 (Nat.lt_of_lt_of_le hu.2.2.2 hn10) (n := 16) rfl ?_
      have hP16 : z_G np ((z_up I 62 ((abu - abu / 10 * 10).toNatClampNeg) g)) := z_Gf hG (z_up_k _ _ (by decide)) (z_up_k _ _ (by decide))
      refine p_aload_n (z_dec zd_X9_playsFrom 10 rfl) rfl 0 rfl (n := 17) rfl ?_
      refine p_iload_n (z_dec zd_X9_playsFrom 11 rfl) rfl 1 rfl (n := 18) rfl ?_
      refine p_bipush (z_dec zd_X9_playsFrom 12 rfl) (v := 100) (by decide) (n := 20) rfl ?_
      refine p_idiv (z_dec zd_X9_playsFrom 13 rfl) (by decide) (n := 21) rfl ?_
      refine p_iload_n (z_dec zd_X9_playsFrom 14 rfl) rfl 1 rfl (n := 22) rfl ?_
      refine p_bipush (z_dec zd_X9_playsFrom 15 rfl) (v := 10) (by decide) (n := 24) rfl ?_
      refine p_idiv (z_dec zd_X9_playsFrom 16 rfl) (by decide) (n := 25) rfl ?_
      refine p_bipush (z_dec zd_X9_playsFrom 17 rfl) (v := 10) (by decide) (n := 27) rfl ?_
      refine p_irem (z_dec zd_X9_playsFrom 18 rfl) (by decide) (n := 28) rfl ?_
      refine p_iload_n (z_dec zd_X9_playsFrom 19 rfl) rfl 1 rfl (n := 29) rfl ?_
      refine p_bipush (z_dec zd_X9_playsFrom 20 rfl) (v := 10) (by decide) (n := 31) rfl ?_
      refine p_irem (z_dec zd_X9_playsFrom 21 rfl) (by decide) (n := 32) rfl ?_
      refine q_callV (As := [.int (nI ((abu / 100).toNatClampNeg)), .int (nI (((abu / 10) - (abu / 10) / 10 * 10).toNatClampNeg)), .int (nI ((abu - abu / 10 * 10).toNatClampNeg))]) (rest := []) (z_dec zd_X9_playsFrom 22 rfl) zk_X9_209 zv_X9_oddsOf (c_X9_oddsOf (d - 1) (by omega) b (z_up I 62 ((abu - abu / 10 * 10).toNatClampNeg) g) L ((abu / 100).toNatClampNeg) (Nat.lt_of_lt_of_le hu.1.2 hn10) (((abu / 10) - (abu / 10) / 10 * 10).toNatClampNeg) (Nat.lt_of_lt_of_le hu.2.1.2 hn10) ((abu - abu / 10 * 10).toNatClampNeg) (Nat.lt_of_lt_of_le hu.2.2.2 hn10) hP16.2) rfl ⟨_, _, rfl⟩ (by simp only [← hu.1.1, ← hu.2.1.1, ← hu.2.2.1]; rfl) rfl (Nat.le_of_ble_eq_true rfl) (by omega) (n := 35) rfl ?_
      show PW zm_X9_playsFrom d 35 [(0, .ref 54), (1, .int abu), (2, .int (nI k)), (3, .int (nI n)), (4, .int g)] [.int (f_X9_oddsOf (z_up I 62 ((abu - abu / 10 * 10).toNatClampNeg) g) ((abu / 100).toNatClampNeg) (((abu / 10) - (abu / 10) / 10 * 10).toNatClampNeg) ((abu - abu / 10 * 10).toNatClampNeg))] SH ((m_X9_oddsOf (z_up I 62 ((abu - abu / 10 * 10).toNatClampNeg) g) ((abu / 100).toNatClampNeg) (((abu / 10) - (abu / 10) / 10 * 10).toNatClampNeg) ((abu - abu / 10 * 10).toNatClampNeg)), L, z_R b) 0 0 _
      exact p_iret (z_dec zd_X9_playsFrom 23 rfl) rfl ⟨(by unfold f_X9_playsFrom; rw [if_pos h2]), rfl, (z_3 (by unfold m_X9_playsFrom; rw [if_pos h2]) rfl)⟩
  exact hentry
theorem z_Ggx42 {np k : Nat} {FP : Int32 → (Nat → Nat → Int32) → Int32 × (Nat → Nat → Int32)} (hGP : ∀ (g : Int32) (J : (Nat → Nat → Int32)), z_G np J → z_G np (FP g J).2) {g : Int32} : ∀ (r t : Nat) (v : Int32) (Iv : (Nat → Nat → Int32)), z_G np Iv → z_G np (gx_X9_playsFrom_42 FP k g r t v Iv).2
  | 0, t, v, Iv, h => h
  | r + 1, t, v, Iv, h => by
    unfold gx_X9_playsFrom_42
    (repeat' split) <;> exact z_Ggx42 hGP r (t + 1) _ _ (hGP _ _ h)
theorem z_Gpf {np k n : Nat} {abu g : Int32} {FP : Int32 → (Nat → Nat → Int32) → Int32 × (Nat → Nat → Int32)} (hGP : ∀ (g : Int32) (J : (Nat → Nat → Int32)), z_G np J → z_G np (FP g J).2) {I : (Nat → Nat → Int32)} (h : z_G np I) : z_G np (m_X9_playsFrom I FP abu k n g) := by
  unfold m_X9_playsFrom
  by_cases q : nI k = nI n
  · rw [if_pos q]
    refine z_Goo ?_ _ _ _
    exact z_Gf h (z_up_k _ _ (by decide)) (z_up_k _ _ (by decide))
  · rw [if_neg q]
    exact z_Ggx42 hGP 3 0 _ _ h
/-- by turns, m turns before the last of n -/
def z_pf (abu : Int32) (n : Nat) : Nat → Int32 → (Nat → Nat → Int32) → Int32 × (Nat → Nat → Int32)
  | 0 => fun g J => (f_X9_playsFrom J (fun _ K => (0, K)) abu n n g, m_X9_playsFrom J (fun _ K => (0, K)) abu n n g)
  | m + 1 => fun g J => (f_X9_playsFrom J (z_pf abu n m) abu (n - (m + 1)) n g, m_X9_playsFrom J (z_pf abu n m) abu (n - (m + 1)) n g)
theorem z_pfG {np n : Nat} {abu : Int32} : ∀ (m : Nat) (g : Int32) (J : (Nat → Nat → Int32)), z_G np J → z_G np (z_pf abu n m g J).2
  | 0, g, J, h => z_Gpf (fun _ _ h => h) h
  | m + 1, g, J, h => z_Gpf (z_pfG m) h
theorem c_pf (b : Bool) (L : Nat → Nat → Int64) {np : Nat} (hn10 : np ≤ 10) {abu : Int32} (hu0 : ¬ f_X9_isAbu np abu = 0) {n : Nat} (hn5 : n ≤ 5) : ∀ (m d : Nat) (g : Int32) (J : (Nat → Nat → Int32)), m ≤ n → 56 + m ≤ d → z_G np J → z_CT zm_X9_playsFrom d [.ref 54, .int abu, .int (nI (n - m)), .int (nI n), .int g] SH (J, L, z_R b) 0 0 (z_ret (some (.int (z_pf abu n m g J).1)) ((z_pf abu n m g J).2, L, z_R b))
  | 0, d, g, J, hm, hd, h => c_X9_playsFrom d (by omega) b J L np hn10 h abu hu0 n hn5 n hn5 g (fun _ K => (0, K)) (fun g J q => absurd rfl q) (fun g J h => h)
  | m + 1, d, g, J, hm, hd, h => c_X9_playsFrom d (by omega) b J L np hn10 h abu hu0 (n - (m + 1)) (by omega) n hn5 g (z_pf abu n m) (fun g J _ hJ => by
      have e : n - (m + 1) + 1 = n - m := by omega
      rw [e]
      exact c_pf b L hn10 hu0 hn5 m (d - 1) g J (by omega) (by omega) hJ) (z_pfG m)
theorem z_pfA {x : Int32} {n k m : Nat} {abu g : Int32} (h : n - m = k) (hx : x = nI n) : ([.int g, .int x, .int (nI k), .int abu, .ref 54] : List Value) = [.int g, .int (nI n), .int (nI (n - m)), .int abu, .ref 54] := by
  subst h
  rw [hx]
def f_X9_byTurns (I : Nat → Nat → Int32) (np : Nat) (abu : Int32) (n : Int32) (what : Int32) : Int32 := if (f_X9_isAbu np abu) = 0 then (-1) else if (f_X9_within (n.toInt64) 1 5) = 0 then (-1) else if (f_X9_within (what.toInt64) 0 1) = 0 then (-1) else if what = 0 then (z_pf abu n.toNatClampNeg n.toNatClampNeg ((m_X9_begins I np) 55 (10 + (abu - abu / 10 * 10).toNatClampNeg)) (m_X9_begins I np)).1 else if (z_pf abu n.toNatClampNeg (n.toNatClampNeg - 1) ((m_X9_begins I np) 55 (10 + (abu - abu / 10 * 10).toNatClampNeg)) ((z_pf abu n.toNatClampNeg n.toNatClampNeg ((m_X9_begins I np) 55 (10 + (abu - abu / 10 * 10).toNatClampNeg)) (m_X9_begins I np)).2)).1 = (z_pf abu n.toNatClampNeg n.toNatClampNeg ((m_X9_begins I np) 55 (10 + (abu - abu / 10 * 10).toNatClampNeg)) (m_X9_begins I np)).1 then 2 else if (z_pf abu n.toNatClampNeg (n.toNatClampNeg - 1) (f_X9_soured ((m_X9_begins I np) 55 (10 + (abu - abu / 10 * 10).toNatClampNeg)) 0) ((z_pf abu n.toNatClampNeg (n.toNatClampNeg - 1) ((m_X9_begins I np) 55 (10 + (abu - abu / 10 * 10).toNatClampNeg)) ((z_pf abu n.toNatClampNeg n.toNatClampNeg ((m_X9_begins I np) 55 (10 + (abu - abu / 10 * 10).toNatClampNeg)) (m_X9_begins I np)).2)).2)).1 = (z_pf abu n.toNatClampNeg n.toNatClampNeg ((m_X9_begins I np) 55 (10 + (abu - abu / 10 * 10).toNatClampNeg)) (m_X9_begins I np)).1 then 0 else 1
def m_X9_byTurns (I : Nat → Nat → Int32) (np : Nat) (abu : Int32) (n : Int32) (what : Int32) : Nat → Nat → Int32 := if (f_X9_isAbu np abu) = 0 then I else if (f_X9_within (n.toInt64) 1 5) = 0 then I else if (f_X9_within (what.toInt64) 0 1) = 0 then I else if what = 0 then (z_pf abu n.toNatClampNeg n.toNatClampNeg ((m_X9_begins I np) 55 (10 + (abu - abu / 10 * 10).toNatClampNeg)) (m_X9_begins I np)).2 else if (z_pf abu n.toNatClampNeg (n.toNatClampNeg - 1) ((m_X9_begins I np) 55 (10 + (abu - abu / 10 * 10).toNatClampNeg)) ((z_pf abu n.toNatClampNeg n.toNatClampNeg ((m_X9_begins I np) 55 (10 + (abu - abu / 10 * 10).toNatClampNeg)) (m_X9_begins I np)).2)).1 = (z_pf abu n.toNatClampNeg n.toNatClampNeg ((m_X9_begins I np) 55 (10 + (abu - abu / 10 * 10).toNatClampNeg)) (m_X9_begins I np)).1 then (z_pf abu n.toNatClampNeg (n.toNatClampNeg - 1) ((m_X9_begins I np) 55 (10 + (abu - abu / 10 * 10).toNatClampNeg)) ((z_pf abu n.toNatClampNeg n.toNatClampNeg ((m_X9_begins I np) 55 (10 + (abu - abu / 10 * 10).toNatClampNeg)) (m_X9_begins I np)).2)).2 else if (z_pf abu n.toNatClampNeg (n.toNatClampNeg - 1) (f_X9_soured ((m_X9_begins I np) 55 (10 + (abu - abu / 10 * 10).toNatClampNeg)) 0) ((z_pf abu n.toNatClampNeg (n.toNatClampNeg - 1) ((m_X9_begins I np) 55 (10 + (abu - abu / 10 * 10).toNatClampNeg)) ((z_pf abu n.toNatClampNeg n.toNatClampNeg ((m_X9_begins I np) 55 (10 + (abu - abu / 10 * 10).toNatClampNeg)) (m_X9_begins I np)).2)).2)).1 = (z_pf abu n.toNatClampNeg n.toNatClampNeg ((m_X9_begins I np) 55 (10 + (abu - abu / 10 * 10).toNatClampNeg)) (m_X9_begins I np)).1 then (z_pf abu n.toNatClampNeg (n.toNatClampNeg - 1) (f_X9_soured ((m_X9_begins I np) 55 (10 + (abu - abu / 10 * 10).toNatClampNeg)) 0) ((z_pf abu n.toNatClampNeg (n.toNatClampNeg - 1) ((m_X9_begins I np) 55 (10 + (abu - abu / 10 * 10).toNatClampNeg)) ((z_pf abu n.toNatClampNeg n.toNatClampNeg ((m_X9_begins I np) 55 (10 + (abu - abu / 10 * 10).toNatClampNeg)) (m_X9_begins I np)).2)).2)).2 else (z_pf abu n.toNatClampNeg (n.toNatClampNeg - 1) (f_X9_soured ((m_X9_begins I np) 55 (10 + (abu - abu / 10 * 10).toNatClampNeg)) 0) ((z_pf abu n.toNatClampNeg (n.toNatClampNeg - 1) ((m_X9_begins I np) 55 (10 + (abu - abu / 10 * 10).toNatClampNeg)) ((z_pf abu n.toNatClampNeg n.toNatClampNeg ((m_X9_begins I np) 55 (10 + (abu - abu / 10 * 10).toNatClampNeg)) (m_X9_begins I np)).2)).2)).2
set_option maxHeartbeats 1000000 in
set_option maxRecDepth 100000 in
theorem c_X9_byTurns (d : Nat) (hd : 63 ≤ d) (b : Bool) (I : Nat → Nat → Int32) (L : Nat → Nat → Int64) (np : Nat) (hn10 : np ≤ 10) (hG : z_G np I) (abu : Int32) (n : Int32) (what : Int32) : z_CT zm_X9_byTurns d [.ref 54, .int abu, .int n, .int what] SH (I, L, z_R b) 0 0 (z_ret (some (.int (f_X9_byTurns I np abu n what))) ((m_X9_byTurns I np abu n what), L, z_R b)) := by
  refine z_enter (by decide +kernel) (Nat.le_of_ble_eq_true rfl) ?_
  have hentry : PW zm_X9_byTurns d 0 [(0, .ref 54), (1, .int abu), (2, .int n), (3, .int what)] [] SH (I, L, z_R b) 0 0 (z_ret (some (.int (f_X9_byTurns I np abu n what))) ((m_X9_byTurns I np abu n what), L, z_R b)) := by
    refine p_aload_n (z_dec zd_X9_byTurns 0 rfl) rfl 0 rfl (n := 1) rfl ?_
    refine p_iload_n (z_dec zd_X9_byTurns 1 rfl) rfl 1 rfl (n := 2) rfl ?_
    refine q_callV (As := [.int abu]) (rest := []) (z_dec zd_X9_byTurns 2 rfl) zk_X9_203 zv_X9_isAbu (c_X9_isAbu (d - 1) (by omega) b I L np hG.1 hn10 abu) rfl ⟨_, _, rfl⟩ rfl rfl (Nat.le_of_ble_eq_true rfl) (by omega) (n := 5) rfl ?_
    show PW zm_X9_byTurns d 5 [(0, .ref 54), (1, .int abu), (2, .int n), (3, .int what)] [.int (f_X9_isAbu np abu)] SH (I, L, z_R b) 0 0 _
    refine p_if_eq (z_dec zd_X9_byTurns 3 rfl) (t := 30) (by decide) (n := 8) rfl (fun h5 => ?_) (fun h5 => ?_)
    · refine p_iconst (z_dec zd_X9_byTurns 16 rfl) (v := (-1)) (by decide) (n := 31) rfl ?_
      exact p_iret (z_dec zd_X9_byTurns 17 rfl) rfl ⟨(by unfold f_X9_byTurns; rw [if_pos h5]), rfl, (z_3 (by unfold m_X9_byTurns; rw [if_pos h5]) rfl)⟩
    · have hu := z_abuR hn10 h5
      refine p_iload_n (z_dec zd_X9_byTurns 4 rfl) rfl 2 rfl (n := 9) rfl ?_
      refine p_i2l (z_dec zd_X9_byTurns 5 rfl) (n := 10) rfl ?_
      refine p_lconst (z_dec zd_X9_byTurns 6 rfl) (v := 1) (by decide) (n := 11) rfl ?_
      refine p_ldc2 (z_dec zd_X9_byTurns 7 rfl) zq_X9_127 (n := 14) rfl ?_
      refine q_callS (As := [.long (n.toInt64), .long 1, .long 5]) (rest := []) (z_dec zd_X9_byTurns 8 rfl) zk_X9_96 zs_X9_within (c_X9_within (d - 1) (by omega) b I L (n.toInt64) 1 5) rfl rfl (Nat.le_of_ble_eq_true rfl) (by omega) (n := 17) rfl ?_
      show PW zm_X9_byTurns d 17 [(0, .ref 54), (1, .int abu), (2, .int n), (3, .int what)] [.int (f_X9_within (n.toInt64) 1 5)] SH (I, L, z_R b) 0 0 _
      refine p_if_eq (z_dec zd_X9_byTurns 9 rfl) (t := 30) (by decide) (n := 20) rfl (fun h17 => ?_) (fun h17 => ?_)
      · refine p_iconst (z_dec zd_X9_byTurns 16 rfl) (v := (-1)) (by decide) (n := 31) rfl ?_
        exact p_iret (z_dec zd_X9_byTurns 17 rfl) rfl ⟨(by unfold f_X9_byTurns; rw [if_neg h5, if_pos h17]), rfl, (z_3 (by unfold m_X9_byTurns; rw [if_neg h5, if_pos h17]) rfl)⟩
      · have hn5 := z_wi1 (N := 5) rfl h17
        refine p_iload_n (z_dec zd_X9_byTurns 10 rfl) rfl 3 rfl (n := 21) rfl ?_
        refine p_i2l (z_dec zd_X9_byTurns 11 rfl) (n := 22) rfl ?_
        refine p_lconst (z_dec zd_X9_byTurns 12 rfl) (v := 0) (by decide) (n := 23) rfl ?_
        refine p_lconst (z_dec zd_X9_byTurns 13 rfl) (v := 1) (by decide) (n := 24) rfl ?_
        refine q_callS (As := [.long (what.toInt64), .long 0, .long 1]) (rest := []) (z_dec zd_X9_byTurns 14 rfl) zk_X9_96 zs_X9_within (c_X9_within (d - 1) (by omega) b I L (what.toInt64) 0 1) rfl rfl (Nat.le_of_ble_eq_true rfl) (by omega) (n := 27) rfl ?_
        show PW zm_X9_byTurns d 27 [(0, .ref 54), (1, .int abu), (2, .int n), (3, .int what)] [.int (f_X9_within (what.toInt64) 0 1)] SH (I, L, z_R b) 0 0 _
        refine p_if_ne (z_dec zd_X9_byTurns 15 rfl) (t := 32) (by decide) (n := 30) rfl (fun h27 => ?_) (fun h27 => ?_)
        · refine p_aload_n (z_dec zd_X9_byTurns 18 rfl) rfl 0 rfl (n := 33) rfl ?_
          refine q_callV (As := []) (rest := []) (z_dec zd_X9_byTurns 19 rfl) zk_X9_206 zv_X9_begins (c_X9_begins (d - 1) (by omega) b I L np hG.1 hn10) rfl ⟨_, _, rfl⟩ rfl rfl (Nat.le_of_ble_eq_true rfl) (by omega) (n := 36) rfl ?_
          show PW zm_X9_byTurns d 36 [(0, .ref 54), (1, .int abu), (2, .int n), (3, .int what)] [] SH ((m_X9_begins I np), L, z_R b) 0 0 _
          have hP36 : z_G np ((m_X9_begins I np)) := z_Gbg hG
          refine p_aload_n (z_dec zd_X9_byTurns 20 rfl) rfl 0 rfl (n := 37) rfl ?_
          refine q_getR (z_dec zd_X9_byTurns 21 rfl) zf_X9_9 (i := 55) rfl rfl (n := 40) rfl ?_
          refine p_bipush (z_dec zd_X9_byTurns 22 rfl) (v := 10) (by decide) (n := 42) rfl ?_
          refine p_iload_n (z_dec zd_X9_byTurns 23 rfl) rfl 1 rfl (n := 43) rfl ?_
          refine p_bipush (z_dec zd_X9_byTurns 24 rfl) (v := 10) (by decide) (n := 45) rfl ?_
          refine p_irem (z_dec zd_X9_byTurns 25 rfl) (by decide) (n := 46) rfl ?_
          refine p_iadd (z_dec zd_X9_byTurns 26 rfl) (n := 47) rfl ?_
          refine q_iald (z_dec zd_X9_byTurns 27 rfl) rfl (by decide) ((10 + (abu - abu / 10 * 10).toNatClampNeg)) (z_addE (a := 10) rfl hu.2.2.1) (by have := hu.2.2.2; omega) (v := ((m_X9_begins I np) 55 (10 + (abu - abu / 10 * 10).toNatClampNeg))) rfl (n := 48) rfl ?_
          refine p_istore (z_dec zd_X9_byTurns 28 rfl) (lv2 := [(4, .int ((m_X9_begins I np) 55 (10 + (abu - abu / 10 * 10).toNatClampNeg))), (0, .ref 54), (1, .int abu), (2, .int n), (3, .int what)]) (by decide) rfl (n := 50) rfl ?_
          refine p_aload_n (z_dec zd_X9_byTurns 29 rfl) rfl 1 rfl (n := 51) rfl ?_
          refine p_iload_n (z_dec zd_X9_byTurns 30 rfl) rfl 2 rfl (n := 52) rfl ?_
          refine p_iconst (z_dec zd_X9_byTurns 31 rfl) (v := 0) (by decide) (n := 53) rfl ?_
          refine p_iload_n (z_dec zd_X9_byTurns 32 rfl) rfl 3 rfl (n := 54) rfl ?_
          refine p_iload (z_dec zd_X9_byTurns 33 rfl) 0 rfl (n := 56) rfl ?_
          refine q_callV (As := [.int abu, .int (nI (n.toNatClampNeg - n.toNatClampNeg)), .int (nI n.toNatClampNeg), .int ((m_X9_begins I np) 55 (10 + (abu - abu / 10 * 10).toNatClampNeg))]) (rest := []) (z_dec zd_X9_byTurns 34 rfl) zk_X9_275 zv_X9_playsFrom (c_pf b L hn10 h5 hn5.2.2 n.toNatClampNeg (d - 1) ((m_X9_begins I np) 55 (10 + (abu - abu / 10 * 10).toNatClampNeg)) (m_X9_begins I np) (by omega) (by omega) hP36) rfl ⟨_, _, rfl⟩ (z_pfA (k := 0) (by omega) hn5.1) rfl (Nat.le_of_ble_eq_true rfl) (by omega) (n := 59) rfl ?_
          show PW zm_X9_byTurns d 59 [(4, .int ((m_X9_begins I np) 55 (10 + (abu - abu / 10 * 10).toNatClampNeg))), (0, .ref 54), (1, .int abu), (2, .int n), (3, .int what)] [.int ((z_pf abu n.toNatClampNeg n.toNatClampNeg ((m_X9_begins I np) 55 (10 + (abu - abu / 10 * 10).toNatClampNeg)) (m_X9_begins I np)).1)] SH ((z_pf abu n.toNatClampNeg n.toNatClampNeg ((m_X9_begins I np) 55 (10 + (abu - abu / 10 * 10).toNatClampNeg)) (m_X9_begins I np)).2, L, z_R b) 0 0 _
          have hP59 : z_G np ((z_pf abu n.toNatClampNeg n.toNatClampNeg ((m_X9_begins I np) 55 (10 + (abu - abu / 10 * 10).toNatClampNeg)) (m_X9_begins I np)).2) := z_pfG _ _ _ hP36
          refine p_istore (z_dec zd_X9_byTurns 35 rfl) (lv2 := [(5, .int ((z_pf abu n.toNatClampNeg n.toNatClampNeg ((m_X9_begins I np) 55 (10 + (abu - abu / 10 * 10).toNatClampNeg)) (m_X9_begins I np)).1)), (4, .int ((m_X9_begins I np) 55 (10 + (abu - abu / 10 * 10).toNatClampNeg))), (0, .ref 54), (1, .int abu), (2, .int n), (3, .int what)]) (by decide) rfl (n := 61) rfl ?_
          refine p_iload_n (z_dec zd_X9_byTurns 36 rfl) rfl 5 rfl (n := 62) rfl ?_
          refine p_if_ne (z_dec zd_X9_byTurns 37 rfl) (t := 68) (by decide) (n := 65) rfl (fun h62 => ?_) (fun h62 => ?_)
          · refine p_aload_n (z_dec zd_X9_byTurns 40 rfl) rfl 2 rfl (n := 69) rfl ?_
            refine p_iload_n (z_dec zd_X9_byTurns 41 rfl) rfl 3 rfl (n := 70) rfl ?_
            refine p_iconst (z_dec zd_X9_byTurns 42 rfl) (v := 1) (by decide) (n := 71) rfl ?_
            refine p_iload_n (z_dec zd_X9_byTurns 43 rfl) rfl 4 rfl (n := 72) rfl ?_
            refine p_iload (z_dec zd_X9_byTurns 44 rfl) 1 rfl (n := 74) rfl ?_
            refine q_callV (As := [.int abu, .int (nI (n.toNatClampNeg - (n.toNatClampNeg - 1))), .int (nI n.toNatClampNeg), .int ((m_X9_begins I np) 55 (10 + (abu - abu / 10 * 10).toNatClampNeg))]) (rest := []) (z_dec zd_X9_byTurns 45 rfl) zk_X9_275 zv_X9_playsFrom (c_pf b L hn10 h5 hn5.2.2 (n.toNatClampNeg - 1) (d - 1) ((m_X9_begins I np) 55 (10 + (abu - abu / 10 * 10).toNatClampNeg)) ((z_pf abu n.toNatClampNeg n.toNatClampNeg ((m_X9_begins I np) 55 (10 + (abu - abu / 10 * 10).toNatClampNeg)) (m_X9_begins I np)).2) (by omega) (by omega) hP59) rfl ⟨_, _, rfl⟩ (z_pfA (k := 1) (by omega) hn5.1) rfl (Nat.le_of_ble_eq_true rfl) (by omega) (n := 77) rfl ?_
            show PW zm_X9_byTurns d 77 [(5, .int ((z_pf abu n.toNatClampNeg n.toNatClampNeg ((m_X9_begins I np) 55 (10 + (abu - abu / 10 * 10).toNatClampNeg)) (m_X9_begins I np)).1)), (4, .int ((m_X9_begins I np) 55 (10 + (abu - abu / 10 * 10).toNatClampNeg))), (0, .ref 54), (1, .int abu), (2, .int n), (3, .int what)] [.int ((z_pf abu n.toNatClampNeg (n.toNatClampNeg - 1) ((m_X9_begins I np) 55 (10 + (abu - abu / 10 * 10).toNatClampNeg)) ((z_pf abu n.toNatClampNeg n.toNatClampNeg ((m_X9_begins I np) 55 (10 + (abu - abu / 10 * 10).toNatClampNeg)) (m_X9_begins I np)).2)).1)] SH ((z_pf abu n.toNatClampNeg (n.toNatClampNeg - 1) ((m_X9_begins I np) 55 (10 + (abu - abu / 10 * 10).toNatClampNeg)) ((z_pf abu n.toNatClampNeg n.toNatClampNeg ((m_X9_begins I np) 55 (10 + (abu - abu / 10 * 10).toNatClampNeg)) (m_X9_begins I np)).2)).2, L, z_R b) 0 0 _
            have hP77 : z_G np ((z_pf abu n.toNatClampNeg (n.toNatClampNeg - 1) ((m_X9_begins I np) 55 (10 + (abu - abu / 10 * 10).toNatClampNeg)) ((z_pf abu n.toNatClampNeg n.toNatClampNeg ((m_X9_begins I np) 55 (10 + (abu - abu / 10 * 10).toNatClampNeg)) (m_X9_begins I np)).2)).2) := z_pfG _ _ _ hP59
            refine p_iload (z_dec zd_X9_byTurns 46 rfl) 0 rfl (n := 79) rfl ?_
            refine p_icmp_ne (z_dec zd_X9_byTurns 47 rfl) (t := 86) (by decide) (n := 82) rfl (fun h79 => ?_) (fun h79 => ?_)
            · refine p_aload_n (z_dec zd_X9_byTurns 50 rfl) rfl 2 rfl (n := 87) rfl ?_
              refine p_iload_n (z_dec zd_X9_byTurns 51 rfl) rfl 3 rfl (n := 88) rfl ?_
              refine p_iconst (z_dec zd_X9_byTurns 52 rfl) (v := 1) (by decide) (n := 89) rfl ?_
              refine p_iload_n (z_dec zd_X9_byTurns 53 rfl) rfl 4 rfl (n := 90) rfl ?_
              refine p_iload (z_dec zd_X9_byTurns 54 rfl) 1 rfl (n := 92) rfl ?_
              refine p_iconst (z_dec zd_X9_byTurns 55 rfl) (v := 0) (by decide) (n := 93) rfl ?_
              refine q_callS (As := [.int ((m_X9_begins I np) 55 (10 + (abu - abu / 10 * 10).toNatClampNeg)), .int 0]) (rest := [.int n, .int 1, .int abu, .ref 54]) (z_dec zd_X9_byTurns 56 rfl) zk_X9_272 zs_X9_soured (c_X9_soured (d - 1) (by omega) b ((z_pf abu n.toNatClampNeg (n.toNatClampNeg - 1) ((m_X9_begins I np) 55 (10 + (abu - abu / 10 * 10).toNatClampNeg)) ((z_pf abu n.toNatClampNeg n.toNatClampNeg ((m_X9_begins I np) 55 (10 + (abu - abu / 10 * 10).toNatClampNeg)) (m_X9_begins I np)).2)).2) L ((m_X9_begins I np) 55 (10 + (abu - abu / 10 * 10).toNatClampNeg)) 0) rfl rfl (Nat.le_of_ble_eq_true rfl) (by omega) (n := 96) rfl ?_
              show PW zm_X9_byTurns d 96 [(5, .int ((z_pf abu n.toNatClampNeg n.toNatClampNeg ((m_X9_begins I np) 55 (10 + (abu - abu / 10 * 10).toNatClampNeg)) (m_X9_begins I np)).1)), (4, .int ((m_X9_begins I np) 55 (10 + (abu - abu / 10 * 10).toNatClampNeg))), (0, .ref 54), (1, .int abu), (2, .int n), (3, .int what)] [.int (f_X9_soured ((m_X9_begins I np) 55 (10 + (abu - abu / 10 * 10).toNatClampNeg)) 0), .int n, .int 1, .int abu, .ref 54] SH ((z_pf abu n.toNatClampNeg (n.toNatClampNeg - 1) ((m_X9_begins I np) 55 (10 + (abu - abu / 10 * 10).toNatClampNeg)) ((z_pf abu n.toNatClampNeg n.toNatClampNeg ((m_X9_begins I np) 55 (10 + (abu - abu / 10 * 10).toNatClampNeg)) (m_X9_begins I np)).2)).2, L, z_R b) 0 0 _
              refine q_callV (As := [.int abu, .int (nI (n.toNatClampNeg - (n.toNatClampNeg - 1))), .int (nI n.toNatClampNeg), .int (f_X9_soured ((m_X9_begins I np) 55 (10 + (abu - abu / 10 * 10).toNatClampNeg)) 0)]) (rest := []) (z_dec zd_X9_byTurns 57 rfl) zk_X9_275 zv_X9_playsFrom (c_pf b L hn10 h5 hn5.2.2 (n.toNatClampNeg - 1) (d - 1) (f_X9_soured ((m_X9_begins I np) 55 (10 + (abu - abu / 10 * 10).toNatClampNeg)) 0) ((z_pf abu n.toNatClampNeg (n.toNatClampNeg - 1) ((m_X9_begins I np) 55 (10 + (abu - abu / 10 * 10).toNatClampNeg)) ((z_pf abu n.toNatClampNeg n.toNatClampNeg ((m_X9_begins I np) 55 (10 + (abu - abu / 10 * 10).toNatClampNeg)) (m_X9_begins I np)).2)).2) (by omega) (by omega) hP77) rfl ⟨_, _, rfl⟩ (z_pfA (k := 1) (by omega) hn5.1) rfl (Nat.le_of_ble_eq_true rfl) (by omega) (n := 99) rfl ?_
              show PW zm_X9_byTurns d 99 [(5, .int ((z_pf abu n.toNatClampNeg n.toNatClampNeg ((m_X9_begins I np) 55 (10 + (abu - abu / 10 * 10).toNatClampNeg)) (m_X9_begins I np)).1)), (4, .int ((m_X9_begins I np) 55 (10 + (abu - abu / 10 * 10).toNatClampNeg))), (0, .ref 54), (1, .int abu), (2, .int n), (3, .int what)] [.int ((z_pf abu n.toNatClampNeg (n.toNatClampNeg - 1) (f_X9_soured ((m_X9_begins I np) 55 (10 + (abu - abu / 10 * 10).toNatClampNeg)) 0) ((z_pf abu n.toNatClampNeg (n.toNatClampNeg - 1) ((m_X9_begins I np) 55 (10 + (abu - abu / 10 * 10).toNatClampNeg)) ((z_pf abu n.toNatClampNeg n.toNatClampNeg ((m_X9_begins I np) 55 (10 + (abu - abu / 10 * 10).toNatClampNeg)) (m_X9_begins I np)).2)).2)).1)] SH ((z_pf abu n.toNatClampNeg (n.toNatClampNeg - 1) (f_X9_soured ((m_X9_begins I np) 55 (10 + (abu - abu / 10 * 10).toNatClampNeg)) 0) ((z_pf abu n.toNatClampNeg (n.toNatClampNeg - 1) ((m_X9_begins I np) 55 (10 + (abu - abu / 10 * 10).toNatClampNeg)) ((z_pf abu n.toNatClampNeg n.toNatClampNeg ((m_X9_begins I np) 55 (10 + (abu - abu / 10 * 10).toNatClampNeg)) (m_X9_begins I np)).2)).2)).2, L, z_R b) 0 0 _
              have hP99 : z_G np ((z_pf abu n.toNatClampNeg (n.toNatClampNeg - 1) (f_X9_soured ((m_X9_begins I np) 55 (10 + (abu - abu / 10 * 10).toNatClampNeg)) 0) ((z_pf abu n.toNatClampNeg (n.toNatClampNeg - 1) ((m_X9_begins I np) 55 (10 + (abu - abu / 10 * 10).toNatClampNeg)) ((z_pf abu n.toNatClampNeg n.toNatClampNeg ((m_X9_begins I np) 55 (10 + (abu - abu / 10 * 10).toNatClampNeg)) (m_X9_begins I np)).2)).2)).2) := z_pfG _ _ _ hP77
              refine p_iload (z_dec zd_X9_byTurns 58 rfl) 0 rfl (n := 101) rfl ?_
              refine p_icmp_ne (z_dec zd_X9_byTurns 59 rfl) (t := 108) (by decide) (n := 104) rfl (fun h101 => ?_) (fun h101 => ?_)
              · refine p_iconst (z_dec zd_X9_byTurns 62 rfl) (v := 1) (by decide) (n := 109) rfl ?_
                exact p_iret (z_dec zd_X9_byTurns 63 rfl) rfl ⟨(by unfold f_X9_byTurns; rw [if_neg h5, if_neg h17, if_neg h27, if_neg h62, if_neg h79, if_neg h101]), rfl, (z_3 (by unfold m_X9_byTurns; rw [if_neg h5, if_neg h17, if_neg h27, if_neg h62, if_neg h79, if_neg h101]) rfl)⟩
              · refine p_iconst (z_dec zd_X9_byTurns 60 rfl) (v := 0) (by decide) (n := 105) rfl ?_
                refine p_goto (z_dec zd_X9_byTurns 61 rfl) (t := 109) (by decide) ?_
                exact p_iret (z_dec zd_X9_byTurns 63 rfl) rfl ⟨(by unfold f_X9_byTurns; rw [if_neg h5, if_neg h17, if_neg h27, if_neg h62, if_neg h79, if_pos h101]), rfl, (z_3 (by unfold m_X9_byTurns; rw [if_neg h5, if_neg h17, if_neg h27, if_neg h62, if_neg h79, if_pos h101]) rfl)⟩
            · refine p_iconst (z_dec zd_X9_byTurns 48 rfl) (v := 2) (by decide) (n := 83) rfl ?_
              refine p_goto (z_dec zd_X9_byTurns 49 rfl) (t := 109) (by decide) ?_
              exact p_iret (z_dec zd_X9_byTurns 63 rfl) rfl ⟨(by unfold f_X9_byTurns; rw [if_neg h5, if_neg h17, if_neg h27, if_neg h62, if_pos h79]), rfl, (z_3 (by unfold m_X9_byTurns; rw [if_neg h5, if_neg h17, if_neg h27, if_neg h62, if_pos h79]) rfl)⟩
          · refine p_iload (z_dec zd_X9_byTurns 38 rfl) 0 rfl (n := 67) rfl ?_
            exact p_iret (z_dec zd_X9_byTurns 39 rfl) rfl ⟨(by unfold f_X9_byTurns; rw [if_neg h5, if_neg h17, if_neg h27, if_pos h62]), rfl, (z_3 (by unfold m_X9_byTurns; rw [if_neg h5, if_neg h17, if_neg h27, if_pos h62]) rfl)⟩
        · refine p_iconst (z_dec zd_X9_byTurns 16 rfl) (v := (-1)) (by decide) (n := 31) rfl ?_
          exact p_iret (z_dec zd_X9_byTurns 17 rfl) rfl ⟨(by unfold f_X9_byTurns; rw [if_neg h5, if_neg h17, if_pos h27]), rfl, (z_3 (by unfold m_X9_byTurns; rw [if_neg h5, if_neg h17, if_pos h27]) rfl)⟩
  exact hentry
