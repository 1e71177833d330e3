def gx_X9_triesOnce_45 (np : Nat) (n : Nat) (gone : Int32) (FT : Nat → Int32 → (Nat → Nat → Int32) → (Nat → Nat → Int32)) : Nat → Nat → (Nat → Nat → Int32) → (Nat → Nat → Int32)
  | 0, t45, Iv => Iv
  | r45 + 1, t45, Iv => if 3 ≤ (nI n) then Iv else if (((nI t45) / 10) - ((nI t45) / 10) / 10 * 10) ≤ ((nI t45) / 100) then gx_X9_triesOnce_45 np n gone FT r45 (t45 + 1) Iv else if (f_X9_isIn gone ((nI t45) / 100)) = 0 then if (f_X9_isIn gone (((nI t45) / 10) - ((nI t45) / 10) / 10 * 10)) = 0 then if (f_X9_isIn gone ((nI t45) - (nI t45) / 10 * 10)) = 0 then if (f_X9_areThree np (((nI t45) / 100).toInt64) ((((nI t45) / 10) - ((nI t45) / 10) / 10 * 10).toInt64) (((nI t45) - (nI t45) / 10 * 10).toInt64)) = 0 then gx_X9_triesOnce_45 np n gone FT r45 (t45 + 1) Iv else if (f_X9_canBeHeld Iv (((nI t45) / 100).toNatClampNeg) ((((nI t45) / 10) - ((nI t45) / 10) / 10 * 10).toNatClampNeg) (((nI t45) - (nI t45) / 10 * 10).toNatClampNeg)) = 0 then gx_X9_triesOnce_45 np n gone FT r45 (t45 + 1) Iv else gx_X9_triesOnce_45 np n gone FT r45 (t45 + 1) (FT (t45 + 1) (((gone ||| ((1 : Int32) <<< (((nI t45) / 100) &&& 31))) ||| ((1 : Int32) <<< ((((nI t45) / 10) - ((nI t45) / 10) / 10 * 10) &&& 31))) ||| ((1 : Int32) <<< (((nI t45) - (nI t45) / 10 * 10) &&& 31))) (z_up Iv 65 n (nI t45))) else gx_X9_triesOnce_45 np n gone FT r45 (t45 + 1) Iv else gx_X9_triesOnce_45 np n gone FT r45 (t45 + 1) Iv else gx_X9_triesOnce_45 np n gone FT r45 (t45 + 1) Iv
def gw_X9_triesOnce_16  : Nat → Nat → (Nat → Nat → Int32) → (Nat → Nat → Int32)
  | 0, t16, Iw16 => Iw16
  | r16 + 1, t16, Iw16 => gw_X9_triesOnce_16 r16 (t16 + 1) (z_up Iw16 66 t16 (Iw16 65 t16))
theorem gi_gw_X9_triesOnce_16  {np : Nat} : ∀ (r16 t16 : Nat) (Iw16 : (Nat → Nat → Int32)), z_N np Iw16 → z_N np (gw_X9_triesOnce_16 r16 t16 Iw16)
  | 0, t16, Iw16, h => h
  | r16 + 1, t16, Iw16, h => by
    unfold gw_X9_triesOnce_16
    (repeat' split) <;> first | exact h | exact gi_gw_X9_triesOnce_16 r16 (t16 + 1) _ (h) | exact gi_gw_X9_triesOnce_16 r16 (t16 + 1) _ (z_Nu h (by decide) _ _)
def m_X9_triesOnce (I : Nat → Nat → Int32) (np : Nat) (n : Nat) (f : Nat) (gone : Int32) (FT : Nat → Int32 → (Nat → Nat → Int32) → (Nat → Nat → Int32)) : Nat → Nat → Int32 := if (nI n) ≤ (I 54 23) then (gx_X9_triesOnce_45 np n gone FT (1000 - f) f I) else (gx_X9_triesOnce_45 np n gone FT (1000 - f) f (gw_X9_triesOnce_16 n 0 (z_up I 54 23 (nI n))))
set_option maxHeartbeats 1000000 in
set_option maxRecDepth 100000 in
theorem c_X9_triesOnce (d : Nat) (hd : 3 ≤ d) (b : Bool) (I : Nat → Nat → Int32) (L : Nat → Nat → Int64) (np : Nat) (hn10 : np ≤ 10) (hN : z_N np I) (n : Nat) (hn3 : n ≤ 3) (f : Nat) (hf : f ≤ 1000) (gone : Int32) (FT : Nat → Int32 → (Nat → Nat → Int32) → (Nat → Nat → Int32)) (hFT : ∀ (f : Nat) (g : Int32) (J : (Nat → Nat → Int32)), n < 3 → f ≤ 1000 → z_N np J → z_CT zm_X9_triesOnce (d - 1) [.ref 54, .int (nI (n + 1)), .int (nI f), .int g] SH (J, L, z_R b) 0 0 (z_ret none (FT f g J, L, z_R b))) (hNT : ∀ (f : Nat) (g : Int32) (J : (Nat → Nat → Int32)), z_N np J → z_N np (FT f g J)) : z_CT zm_X9_triesOnce d [.ref 54, .int (nI n), .int (nI f), .int gone] SH (I, L, z_R b) 0 0 (z_ret (none) ((m_X9_triesOnce I np n f gone FT), L, z_R b)) := by
  refine z_enter (by decide +kernel) (Nat.le_of_ble_eq_true rfl) ?_
  have hentry : PW zm_X9_triesOnce d 0 [(0, .ref 54), (1, .int (nI n)), (2, .int (nI f)), (3, .int gone)] [] SH (I, L, z_R b) 0 0 (z_ret (none) ((m_X9_triesOnce I np n f gone FT), L, z_R b)) := by
    refine p_iload_n (z_dec zd_X9_triesOnce 0 rfl) rfl 1 rfl (n := 1) rfl ?_
    refine p_aload_n (z_dec zd_X9_triesOnce 1 rfl) rfl 0 rfl (n := 2) rfl ?_
    refine q_getI (z_dec zd_X9_triesOnce 2 rfl) zf_X9_244 (by decide) rfl (v := (I 54 23)) rfl (n := 5) rfl ?_
    refine p_icmp_le (z_dec zd_X9_triesOnce 3 rfl) (t := 42) (by decide) (n := 8) rfl (fun h5 => ?_) (fun h5 => ?_)
    · refine p_iload_n (z_dec zd_X9_triesOnce 22 rfl) rfl 2 rfl (n := 43) rfl ?_
      refine p_istore (z_dec zd_X9_triesOnce 23 rfl) (lv2 := [(4, .int (nI f)), (0, .ref 54), (1, .int (nI n)), (2, .int (nI f)), (3, .int gone)]) (by decide) rfl (n := 45) rfl ?_
      have hL45 : ∀ (r45 t45 : Nat) (Iv : Nat → Nat → Int32), t45 + r45 = 1000 - f + f → z_N np Iv → PW zm_X9_triesOnce d 45 [(4, .int (nI t45)), (0, .ref 54), (1, .int (nI n)), (2, .int (nI f)), (3, .int gone)] [] SH (Iv, L, z_R b) 0 0 (z_ret (none) ((gx_X9_triesOnce_45 np n gone FT r45 t45 Iv), L, z_R b)) := by
        intro r45
        induction r45 with
        | zero =>
          intro t45 Iv ht45 hlo
          refine p_iload (z_dec zd_X9_triesOnce 24 rfl) 0 rfl (n := 47) rfl ?_
          refine p_sipush (z_dec zd_X9_triesOnce 25 rfl) (v := 1000) (by decide) (n := 50) rfl ?_
          refine p_icmp_ge (z_dec zd_X9_triesOnce 26 rfl) (t := 198) (by decide) (n := 53) rfl (fun h50 => ?_) (fun h50 => ?_)
          · exact p_vret (z_dec zd_X9_triesOnce 108 rfl) rfl ⟨rfl, rfl, (z_3 rfl rfl)⟩
          · exact absurd (z_nge (a := 1000) h50) (by omega)
        | succ r45 ih45 =>
          intro t45 Iv ht45 hlo
          refine p_iload (z_dec zd_X9_triesOnce 24 rfl) 0 rfl (n := 47) rfl ?_
          refine p_sipush (z_dec zd_X9_triesOnce 25 rfl) (v := 1000) (by decide) (n := 50) rfl ?_
          refine p_icmp_ge (z_dec zd_X9_triesOnce 26 rfl) (t := 198) (by decide) (n := 53) rfl (fun h50 => ?_) (fun h50 => ?_)
          · exact absurd (z_ge (a := 1000) h50) (by omega)
          · have hx45 : t45 < 1000 - f + f := by omega
            refine p_iload_n (z_dec zd_X9_triesOnce 27 rfl) rfl 2 rfl (n := 54) rfl ?_
            refine p_iconst (z_dec zd_X9_triesOnce 28 rfl) (v := 3) (by decide) (n := 55) rfl ?_
            refine p_icmp_ge (z_dec zd_X9_triesOnce 29 rfl) (t := 198) (by decide) (n := 58) rfl (fun h55 => ?_) (fun h55 => ?_)
            · exact p_vret (z_dec zd_X9_triesOnce 108 rfl) rfl ⟨rfl, rfl, (z_3 (by (conv => rhs; unfold gx_X9_triesOnce_45); rw [if_pos h55]) rfl)⟩
            · have hn3l := z_nge (a := 3) h55
              refine p_iload (z_dec zd_X9_triesOnce 30 rfl) 0 rfl (n := 60) rfl ?_
              refine p_bipush (z_dec zd_X9_triesOnce 31 rfl) (v := 100) (by decide) (n := 62) rfl ?_
              refine p_idiv (z_dec zd_X9_triesOnce 32 rfl) (by decide) (n := 63) rfl ?_
              refine p_istore (z_dec zd_X9_triesOnce 33 rfl) (lv2 := [(5, .int ((nI t45) / 100)), (4, .int (nI t45)), (0, .ref 54), (1, .int (nI n)), (2, .int (nI f)), (3, .int gone)]) (by decide) rfl (n := 65) rfl ?_
              refine p_iload (z_dec zd_X9_triesOnce 34 rfl) 1 rfl (n := 67) rfl ?_
              refine p_bipush (z_dec zd_X9_triesOnce 35 rfl) (v := 10) (by decide) (n := 69) rfl ?_
              refine p_idiv (z_dec zd_X9_triesOnce 36 rfl) (by decide) (n := 70) rfl ?_
              refine p_bipush (z_dec zd_X9_triesOnce 37 rfl) (v := 10) (by decide) (n := 72) rfl ?_
              refine p_irem (z_dec zd_X9_triesOnce 38 rfl) (by decide) (n := 73) rfl ?_
              refine p_istore (z_dec zd_X9_triesOnce 39 rfl) (lv2 := [(6, .int (((nI t45) / 10) - ((nI t45) / 10) / 10 * 10)), (5, .int ((nI t45) / 100)), (4, .int (nI t45)), (0, .ref 54), (1, .int (nI n)), (2, .int (nI f)), (3, .int gone)]) (by decide) rfl (n := 75) rfl ?_
              refine p_iload (z_dec zd_X9_triesOnce 40 rfl) 2 rfl (n := 77) rfl ?_
              refine p_bipush (z_dec zd_X9_triesOnce 41 rfl) (v := 10) (by decide) (n := 79) rfl ?_
              refine p_irem (z_dec zd_X9_triesOnce 42 rfl) (by decide) (n := 80) rfl ?_
              refine p_istore (z_dec zd_X9_triesOnce 43 rfl) (lv2 := [(7, .int ((nI t45) - (nI t45) / 10 * 10)), (6, .int (((nI t45) / 10) - ((nI t45) / 10) / 10 * 10)), (5, .int ((nI t45) / 100)), (4, .int (nI t45)), (0, .ref 54), (1, .int (nI n)), (2, .int (nI f)), (3, .int gone)]) (by decide) rfl (n := 82) rfl ?_
              refine p_iload (z_dec zd_X9_triesOnce 44 rfl) 2 rfl (n := 84) rfl ?_
              refine p_iload (z_dec zd_X9_triesOnce 45 rfl) 1 rfl (n := 86) rfl ?_
              refine p_icmp_ge (z_dec zd_X9_triesOnce 46 rfl) (t := 149) (by decide) (n := 89) rfl (fun h86 => ?_) (fun h86 => ?_)
              · refine p_iconst (z_dec zd_X9_triesOnce 76 rfl) (v := 0) (by decide) (n := 150) rfl ?_
                refine p_istore (z_dec zd_X9_triesOnce 77 rfl) (lv2 := [(8, .int 0), (7, .int ((nI t45) - (nI t45) / 10 * 10)), (6, .int (((nI t45) / 10) - ((nI t45) / 10) / 10 * 10)), (5, .int ((nI t45) / 100)), (4, .int (nI t45)), (0, .ref 54), (1, .int (nI n)), (2, .int (nI f)), (3, .int gone)]) (by decide) rfl (n := 152) rfl ?_
                refine p_iload (z_dec zd_X9_triesOnce 78 rfl) 0 rfl (n := 154) rfl ?_
                refine p_if_eq (z_dec zd_X9_triesOnce 79 rfl) (t := 192) (by decide) (n := 157) rfl (fun h154 => ?_) (fun h154 => ?_)
                · skip
                  refine p_iinc (z_dec zd_X9_triesOnce 106 rfl) 4 rfl (v := (nI (t45 + 1))) (nI_1 _) (lv2 := [(4, .int (nI (t45 + 1))), (8, .int 0), (7, .int ((nI t45) - (nI t45) / 10 * 10)), (6, .int (((nI t45) / 10) - ((nI t45) / 10) / 10 * 10)), (5, .int ((nI t45) / 100)), (0, .ref 54), (1, .int (nI n)), (2, .int (nI f)), (3, .int gone)]) (by decide) rfl (n := 195) rfl ?_
                  refine p_goto (z_dec zd_X9_triesOnce 107 rfl) (t := 45) (by decide) ?_
                  refine z_sub (lv' := [(4, .int (nI (t45 + 1))), (0, .ref 54), (1, .int (nI n)), (2, .int (nI f)), (3, .int gone)]) [0, 5, 6, 7, 8] rfl ?_
                  rw [show gx_X9_triesOnce_45 np n gone FT (r45 + 1) t45 Iv = gx_X9_triesOnce_45 np n gone FT r45 (t45 + 1) Iv from by (conv => lhs; unfold gx_X9_triesOnce_45); rw [if_neg h55, if_pos h86]]
                  exact ih45 (t45 + 1) Iv (by omega) hlo
                · exact absurd h154 (by decide)
              · refine p_iload_n (z_dec zd_X9_triesOnce 47 rfl) rfl 7 rfl (n := 90) rfl ?_
                refine p_iload (z_dec zd_X9_triesOnce 48 rfl) 2 rfl (n := 92) rfl ?_
                refine q_callS (As := [.int gone, .int ((nI t45) / 100)]) (rest := []) (z_dec zd_X9_triesOnce 49 rfl) zk_X9_216 zs_X9_isIn (c_X9_isIn (d - 1) (by omega) b Iv L gone ((nI t45) / 100)) rfl rfl (Nat.le_of_ble_eq_true rfl) (by omega) (n := 95) rfl ?_
                show PW zm_X9_triesOnce d 95 [(7, .int ((nI t45) - (nI t45) / 10 * 10)), (6, .int (((nI t45) / 10) - ((nI t45) / 10) / 10 * 10)), (5, .int ((nI t45) / 100)), (4, .int (nI t45)), (0, .ref 54), (1, .int (nI n)), (2, .int (nI f)), (3, .int gone)] [.int (f_X9_isIn gone ((nI t45) / 100))] SH (Iv, L, z_R b) 0 0 _
                refine p_if_ne (z_dec zd_X9_triesOnce 50 rfl) (t := 149) (by decide) (n := 98) rfl (fun h95 => ?_) (fun h95 => ?_)
                · refine p_iconst (z_dec zd_X9_triesOnce 76 rfl) (v := 0) (by decide) (n := 150) rfl ?_
                  refine p_istore (z_dec zd_X9_triesOnce 77 rfl) (lv2 := [(8, .int 0), (7, .int ((nI t45) - (nI t45) / 10 * 10)), (6, .int (((nI t45) / 10) - ((nI t45) / 10) / 10 * 10)), (5, .int ((nI t45) / 100)), (4, .int (nI t45)), (0, .ref 54), (1, .int (nI n)), (2, .int (nI f)), (3, .int gone)]) (by decide) rfl (n := 152) rfl ?_
                  refine p_iload (z_dec zd_X9_triesOnce 78 rfl) 0 rfl (n := 154) rfl ?_
                  refine p_if_eq (z_dec zd_X9_triesOnce 79 rfl) (t := 192) (by decide) (n := 157) rfl (fun h154 => ?_) (fun h154 => ?_)
                  · skip
                    refine p_iinc (z_dec zd_X9_triesOnce 106 rfl) 4 rfl (v := (nI (t45 + 1))) (nI_1 _) (lv2 := [(4, .int (nI (t45 + 1))), (8, .int 0), (7, .int ((nI t45) - (nI t45) / 10 * 10)), (6, .int (((nI t45) / 10) - ((nI t45) / 10) / 10 * 10)), (5, .int ((nI t45) / 100)), (0, .ref 54), (1, .int (nI n)), (2, .int (nI f)), (3, .int gone)]) (by decide) rfl (n := 195) rfl ?_
                    refine p_goto (z_dec zd_X9_triesOnce 107 rfl) (t := 45) (by decide) ?_
                    refine z_sub (lv' := [(4, .int (nI (t45 + 1))), (0, .ref 54), (1, .int (nI n)), (2, .int (nI f)), (3, .int gone)]) [0, 5, 6, 7, 8] rfl ?_
                    rw [show gx_X9_triesOnce_45 np n gone FT (r45 + 1) t45 Iv = gx_X9_triesOnce_45 np n gone FT r45 (t45 + 1) Iv from by (conv => lhs; unfold gx_X9_triesOnce_45); rw [if_neg h55, if_neg h86, if_neg h95]]
                    exact ih45 (t45 + 1) Iv (by omega) hlo
                  · exact absurd h154 (by decide)
                · refine p_iload_n (z_dec zd_X9_triesOnce 51 rfl) rfl 7 rfl (n := 99) rfl ?_
                  refine p_iload (z_dec zd_X9_triesOnce 52 rfl) 1 rfl (n := 101) rfl ?_
                  refine q_callS (As := [.int gone, .int (((nI t45) / 10) - ((nI t45) / 10) / 10 * 10)]) (rest := []) (z_dec zd_X9_triesOnce 53 rfl) zk_X9_216 zs_X9_isIn (c_X9_isIn (d - 1) (by omega) b Iv L gone (((nI t45) / 10) - ((nI t45) / 10) / 10 * 10)) rfl rfl (Nat.le_of_ble_eq_true rfl) (by omega) (n := 104) rfl ?_
                  show PW zm_X9_triesOnce d 104 [(7, .int ((nI t45) - (nI t45) / 10 * 10)), (6, .int (((nI t45) / 10) - ((nI t45) / 10) / 10 * 10)), (5, .int ((nI t45) / 100)), (4, .int (nI t45)), (0, .ref 54), (1, .int (nI n)), (2, .int (nI f)), (3, .int gone)] [.int (f_X9_isIn gone (((nI t45) / 10) - ((nI t45) / 10) / 10 * 10))] SH (Iv, L, z_R b) 0 0 _
                  refine p_if_ne (z_dec zd_X9_triesOnce 54 rfl) (t := 149) (by decide) (n := 107) rfl (fun h104 => ?_) (fun h104 => ?_)
                  · refine p_iconst (z_dec zd_X9_triesOnce 76 rfl) (v := 0) (by decide) (n := 150) rfl ?_
                    refine p_istore (z_dec zd_X9_triesOnce 77 rfl) (lv2 := [(8, .int 0), (7, .int ((nI t45) - (nI t45) / 10 * 10)), (6, .int (((nI t45) / 10) - ((nI t45) / 10) / 10 * 10)), (5, .int ((nI t45) / 100)), (4, .int (nI t45)), (0, .ref 54), (1, .int (nI n)), (2, .int (nI f)), (3, .int gone)]) (by decide) rfl (n := 152) rfl ?_
                    refine p_iload (z_dec zd_X9_triesOnce 78 rfl) 0 rfl (n := 154) rfl ?_
                    refine p_if_eq (z_dec zd_X9_triesOnce 79 rfl) (t := 192) (by decide) (n := 157) rfl (fun h154 => ?_) (fun h154 => ?_)
                    · skip
                      refine p_iinc (z_dec zd_X9_triesOnce 106 rfl) 4 rfl (v := (nI (t45 + 1))) (nI_1 _) (lv2 := [(4, .int (nI (t45 + 1))), (8, .int 0), (7, .int ((nI t45) - (nI t45) / 10 * 10)), (6, .int (((nI t45) / 10) - ((nI t45) / 10) / 10 * 10)), (5, .int ((nI t45) / 100)), (0, .ref 54), (1, .int (nI n)), (2, .int (nI f)), (3, .int gone)]) (by decide) rfl (n := 195) rfl ?_
                      refine p_goto (z_dec zd_X9_triesOnce 107 rfl) (t := 45) (by decide) ?_
                      refine z_sub (lv' := [(4, .int (nI (t45 + 1))), (0, .ref 54), (1, .int (nI n)), (2, .int (nI f)), (3, .int gone)]) [0, 5, 6, 7, 8] rfl ?_
                      rw [show gx_X9_triesOnce_45 np n gone FT (r45 + 1) t45 Iv = gx_X9_triesOnce_45 np n gone FT r45 (t45 + 1) Iv from by (conv => lhs; unfold gx_X9_triesOnce_45); rw [if_neg h55, if_neg h86, if_pos h95, if_neg h104]]
                      exact ih45 (t45 + 1) Iv (by omega) hlo
                    · exact absurd h154 (by decide)
                  · refine p_iload_n (z_dec zd_X9_triesOnce 55 rfl) rfl 7 rfl (n := 108) rfl ?_
                    refine p_iload (z_dec zd_X9_triesOnce 56 rfl) 0 rfl (n := 110) rfl ?_
                    refine q_callS (As := [.int gone, .int ((nI t45) - (nI t45) / 10 * 10)]) (rest := []) (z_dec zd_X9_triesOnce 57 rfl) zk_X9_216 zs_X9_isIn (c_X9_isIn (d - 1) (by omega) b Iv L gone ((nI t45) - (nI t45) / 10 * 10)) rfl rfl (Nat.le_of_ble_eq_true rfl) (by omega) (n := 113) rfl ?_
                    show PW zm_X9_triesOnce d 113 [(7, .int ((nI t45) - (nI t45) / 10 * 10)), (6, .int (((nI t45) / 10) - ((nI t45) / 10) / 10 * 10)), (5, .int ((nI t45) / 100)), (4, .int (nI t45)), (0, .ref 54), (1, .int (nI n)), (2, .int (nI f)), (3, .int gone)] [.int (f_X9_isIn gone ((nI t45) - (nI t45) / 10 * 10))] SH (Iv, L, z_R b) 0 0 _
                    refine p_if_ne (z_dec zd_X9_triesOnce 58 rfl) (t := 149) (by decide) (n := 116) rfl (fun h113 => ?_) (fun h113 => ?_)
                    · refine p_iconst (z_dec zd_X9_triesOnce 76 rfl) (v := 0) (by decide) (n := 150) rfl ?_
                      refine p_istore (z_dec zd_X9_triesOnce 77 rfl) (lv2 := [(8, .int 0), (7, .int ((nI t45) - (nI t45) / 10 * 10)), (6, .int (((nI t45) / 10) - ((nI t45) / 10) / 10 * 10)), (5, .int ((nI t45) / 100)), (4, .int (nI t45)), (0, .ref 54), (1, .int (nI n)), (2, .int (nI f)), (3, .int gone)]) (by decide) rfl (n := 152) rfl ?_
                      refine p_iload (z_dec zd_X9_triesOnce 78 rfl) 0 rfl (n := 154) rfl ?_
                      refine p_if_eq (z_dec zd_X9_triesOnce 79 rfl) (t := 192) (by decide) (n := 157) rfl (fun h154 => ?_) (fun h154 => ?_)
                      · skip
                        refine p_iinc (z_dec zd_X9_triesOnce 106 rfl) 4 rfl (v := (nI (t45 + 1))) (nI_1 _) (lv2 := [(4, .int (nI (t45 + 1))), (8, .int 0), (7, .int ((nI t45) - (nI t45) / 10 * 10)), (6, .int (((nI t45) / 10) - ((nI t45) / 10) / 10 * 10)), (5, .int ((nI t45) / 100)), (0, .ref 54), (1, .int (nI n)), (2, .int (nI f)), (3, .int gone)]) (by decide) rfl (n := 195) rfl ?_
                        refine p_goto (z_dec zd_X9_triesOnce 107 rfl) (t := 45) (by decide) ?_
                        refine z_sub (lv' := [(4, .int (nI (t45 + 1))), (0, .ref 54), (1, .int (nI n)), (2, .int (nI f)), (3, .int gone)]) [0, 5, 6, 7, 8] rfl ?_
                        rw [show gx_X9_triesOnce_45 np n gone FT (r45 + 1) t45 Iv = gx_X9_triesOnce_45 np n gone FT r45 (t45 + 1) Iv from by (conv => lhs; unfold gx_X9_triesOnce_45); rw [if_neg h55, if_neg h86, if_pos h95, if_pos h104, if_neg h113]]
                        exact ih45 (t45 + 1) Iv (by omega) hlo
                      · exact absurd h154 (by decide)
                    · refine p_aload_n (z_dec zd_X9_triesOnce 59 rfl) rfl 4 rfl (n := 117) rfl ?_
                      refine p_iload (z_dec zd_X9_triesOnce 60 rfl) 2 rfl (n := 119) rfl ?_
                      refine p_i2l (z_dec zd_X9_triesOnce 61 rfl) (n := 120) rfl ?_
                      refine p_iload (z_dec zd_X9_triesOnce 62 rfl) 1 rfl (n := 122) rfl ?_
                      refine p_i2l (z_dec zd_X9_triesOnce 63 rfl) (n := 123) rfl ?_
                      refine p_iload (z_dec zd_X9_triesOnce 64 rfl) 0 rfl (n := 125) rfl ?_
                      refine p_i2l (z_dec zd_X9_triesOnce 65 rfl) (n := 126) rfl ?_
                      refine q_callV (As := [.long (((nI t45) / 100).toInt64), .long ((((nI t45) / 10) - ((nI t45) / 10) / 10 * 10).toInt64), .long (((nI t45) - (nI t45) / 10 * 10).toInt64)]) (rest := []) (z_dec zd_X9_triesOnce 66 rfl) zk_X9_200 zv_X9_areThree (c_X9_areThree (d - 1) (by omega) b Iv L np hlo hn10 (((nI t45) / 100).toInt64) ((((nI t45) / 10) - ((nI t45) / 10) / 10 * 10).toInt64) (((nI t45) - (nI t45) / 10 * 10).toInt64)) rfl ⟨_, _, rfl⟩ rfl rfl (Nat.le_of_ble_eq_true rfl) (by omega) (n := 129) rfl ?_
                      show PW zm_X9_triesOnce d 129 [(7, .int ((nI t45) - (nI t45) / 10 * 10)), (6, .int (((nI t45) / 10) - ((nI t45) / 10) / 10 * 10)), (5, .int ((nI t45) / 100)), (4, .int (nI t45)), (0, .ref 54), (1, .int (nI n)), (2, .int (nI f)), (3, .int gone)] [.int (f_X9_areThree np (((nI t45) / 100).toInt64) ((((nI t45) / 10) - ((nI t45) / 10) / 10 * 10).toInt64) (((nI t45) - (nI t45) / 10 * 10).toInt64))] SH (Iv, L, z_R b) 0 0 _
                      refine p_if_eq (z_dec zd_X9_triesOnce 67 rfl) (t := 149) (by decide) (n := 132) rfl (fun h129 => ?_) (fun h129 => ?_)
                      · refine p_iconst (z_dec zd_X9_triesOnce 76 rfl) (v := 0) (by decide) (n := 150) rfl ?_
                        refine p_istore (z_dec zd_X9_triesOnce 77 rfl) (lv2 := [(8, .int 0), (7, .int ((nI t45) - (nI t45) / 10 * 10)), (6, .int (((nI t45) / 10) - ((nI t45) / 10) / 10 * 10)), (5, .int ((nI t45) / 100)), (4, .int (nI t45)), (0, .ref 54), (1, .int (nI n)), (2, .int (nI f)), (3, .int gone)]) (by decide) rfl (n := 152) rfl ?_
                        refine p_iload (z_dec zd_X9_triesOnce 78 rfl) 0 rfl (n := 154) rfl ?_
                        refine p_if_eq (z_dec zd_X9_triesOnce 79 rfl) (t := 192) (by decide) (n := 157) rfl (fun h154 => ?_) (fun h154 => ?_)
                        · skip
                          refine p_iinc (z_dec zd_X9_triesOnce 106 rfl) 4 rfl (v := (nI (t45 + 1))) (nI_1 _) (lv2 := [(4, .int (nI (t45 + 1))), (8, .int 0), (7, .int ((nI t45) - (nI t45) / 10 * 10)), (6, .int (((nI t45) / 10) - ((nI t45) / 10) / 10 * 10)), (5, .int ((nI t45) / 100)), (0, .ref 54), (1, .int (nI n)), (2, .int (nI f)), (3, .int gone)]) (by decide) rfl (n := 195) rfl ?_
                          refine p_goto (z_dec zd_X9_triesOnce 107 rfl) (t := 45) (by decide) ?_
                          refine z_sub (lv' := [(4, .int (nI (t45 + 1))), (0, .ref 54), (1, .int (nI n)), (2, .int (nI f)), (3, .int gone)]) [0, 5, 6, 7, 8] rfl ?_
                          rw [show gx_X9_triesOnce_45 np n gone FT (r45 + 1) t45 Iv = gx_X9_triesOnce_45 np n gone FT r45 (t45 + 1) Iv from by (conv => lhs; unfold gx_X9_triesOnce_45); rw [if_neg h55, if_neg h86, if_pos h95, if_pos h104, if_pos h113, if_pos h129]]
                          exact ih45 (t45 + 1) Iv (by omega) hlo
                        · exact absurd h154 (by decide)
                      · have hu := z_thr3 hn10 h129
                        refine p_aload_n (z_dec zd_X9_triesOnce 68 rfl) rfl 4 rfl (n := 133) rfl ?_
                        refine p_iload (z_dec zd_X9_triesOnce 69 rfl) 2 rfl (n := 135) rfl ?_
                        refine p_iload (z_dec zd_X9_triesOnce 70 rfl) 1 rfl (n := 137) rfl ?_
                        refine p_iload (z_dec zd_X9_triesOnce 71 rfl) 0 rfl (n := 139) rfl ?_
                        refine q_callV (As := [.int (nI (((nI t45) / 100).toNatClampNeg)), .int (nI ((((nI t45) / 10) - ((nI t45) / 10) / 10 * 10).toNatClampNeg)), .int (nI (((nI t45) - (nI t45) / 10 * 10).toNatClampNeg))]) (rest := []) (z_dec zd_X9_triesOnce 72 rfl) zk_X9_219 zv_X9_canBeHeld (c_X9_canBeHeld (d - 1) (by omega) b Iv L (((nI t45) / 100).toNatClampNeg) (Nat.lt_of_lt_of_le hu.1.2 hn10) ((((nI t45) / 10) - ((nI t45) / 10) / 10 * 10).toNatClampNeg) (Nat.lt_of_lt_of_le hu.2.1.2 hn10) (((nI t45) - (nI t45) / 10 * 10).toNatClampNeg) (Nat.lt_of_lt_of_le hu.2.2.2 hn10)) rfl ⟨_, _, rfl⟩ (by simp only [← hu.1.1, ← hu.2.1.1, ← hu.2.2.1]; rfl) rfl (Nat.le_of_ble_eq_true rfl) (by omega) (n := 142) rfl ?_
                        show PW zm_X9_triesOnce d 142 [(7, .int ((nI t45) - (nI t45) / 10 * 10)), (6, .int (((nI t45) / 10) - ((nI t45) / 10) / 10 * 10)), (5, .int ((nI t45) / 100)), (4, .int (nI t45)), (0, .ref 54), (1, .int (nI n)), (2, .int (nI f)), (3, .int gone)] [.int (f_X9_canBeHeld Iv (((nI t45) / 100).toNatClampNeg) ((((nI t45) / 10) - ((nI t45) / 10) / 10 * 10).toNatClampNeg) (((nI t45) - (nI t45) / 10 * 10).toNatClampNeg))] SH (Iv, L, z_R b) 0 0 _
                        refine p_if_eq (z_dec zd_X9_triesOnce 73 rfl) (t := 149) (by decide) (n := 145) rfl (fun h142 => ?_) (fun h142 => ?_)
                        · refine p_iconst (z_dec zd_X9_triesOnce 76 rfl) (v := 0) (by decide) (n := 150) rfl ?_
                          refine p_istore (z_dec zd_X9_triesOnce 77 rfl) (lv2 := [(8, .int 0), (7, .int ((nI t45) - (nI t45) / 10 * 10)), (6, .int (((nI t45) / 10) - ((nI t45) / 10) / 10 * 10)), (5, .int ((nI t45) / 100)), (4, .int (nI t45)), (0, .ref 54), (1, .int (nI n)), (2, .int (nI f)), (3, .int gone)]) (by decide) rfl (n := 152) rfl ?_
                          refine p_iload (z_dec zd_X9_triesOnce 78 rfl) 0 rfl (n := 154) rfl ?_
                          refine p_if_eq (z_dec zd_X9_triesOnce 79 rfl) (t := 192) (by decide) (n := 157) rfl (fun h154 => ?_) (fun h154 => ?_)
                          · skip
                            refine p_iinc (z_dec zd_X9_triesOnce 106 rfl) 4 rfl (v := (nI (t45 + 1))) (nI_1 _) (lv2 := [(4, .int (nI (t45 + 1))), (8, .int 0), (7, .int ((nI t45) - (nI t45) / 10 * 10)), (6, .int (((nI t45) / 10) - ((nI t45) / 10) / 10 * 10)), (5, .int ((nI t45) / 100)), (0, .ref 54), (1, .int (nI n)), (2, .int (nI f)), (3, .int gone)]) (by decide) rfl (n := 195) rfl ?_
                            refine p_goto (z_dec zd_X9_triesOnce 107 rfl) (t := 45) (by decide) ?_
                            refine z_sub (lv' := [(4, .int (nI (t45 + 1))), (0, .ref 54), (1, .int (nI n)), (2, .int (nI f)), (3, .int gone)]) [0, 5, 6, 7, 8] rfl ?_
                            rw [show gx_X9_triesOnce_45 np n gone FT (r45 + 1) t45 Iv = gx_X9_triesOnce_45 np n gone FT r45 (t45 + 1) Iv from by (conv => lhs; unfold gx_X9_triesOnce_45); rw [if_neg h55, if_neg h86, if_pos h95, if_pos h104, if_pos h113, if_neg h129, if_pos h142]]
                            exact ih45 (t45 + 1) Iv (by omega) hlo
                          · exact absurd h154 (by decide)
                        · refine p_iconst (z_dec zd_X9_triesOnce 74 rfl) (v := 1) (by decide) (n := 146) rfl ?_
                          refine p_goto (z_dec zd_X9_triesOnce 75 rfl) (t := 150) (by decide) ?_
                          refine p_istore (z_dec zd_X9_triesOnce 77 rfl) (lv2 := [(8, .int 1), (7, .int ((nI t45) - (nI t45) / 10 * 10)), (6, .int (((nI t45) / 10) - ((nI t45) / 10) / 10 * 10)), (5, .int ((nI t45) / 100)), (4, .int (nI t45)), (0, .ref 54), (1, .int (nI n)), (2, .int (nI f)), (3, .int gone)]) (by decide) rfl (n := 152) rfl ?_
                          refine p_iload (z_dec zd_X9_triesOnce 78 rfl) 0 rfl (n := 154) rfl ?_
                          refine p_if_eq (z_dec zd_X9_triesOnce 79 rfl) (t := 192) (by decide) (n := 157) rfl (fun h154 => ?_) (fun h154 => ?_)
                          · exact absurd h154 (by decide)
                          · refine p_aload_n (z_dec zd_X9_triesOnce 80 rfl) rfl 5 rfl (n := 158) rfl ?_
                            refine q_getR (z_dec zd_X9_triesOnce 81 rfl) zf_X9_40 (i := 65) rfl rfl (n := 161) rfl ?_
                            refine p_iload_n (z_dec zd_X9_triesOnce 82 rfl) rfl 6 rfl (n := 162) rfl ?_
                            refine p_iload (z_dec zd_X9_triesOnce 83 rfl) 4 rfl (n := 164) rfl ?_
                            refine q_iast (z_dec zd_X9_triesOnce 84 rfl) rfl (by decide) (n) rfl (by omega) (n := 165) rfl ?_
                            have hP165 : z_N np ((z_up Iv 65 n (nI t45))) := z_Nu hlo (by decide) _ _
                            refine p_aload_n (z_dec zd_X9_triesOnce 85 rfl) rfl 5 rfl (n := 166) rfl ?_
                            refine p_iload_n (z_dec zd_X9_triesOnce 86 rfl) rfl 6 rfl (n := 167) rfl ?_
                            refine p_iconst (z_dec zd_X9_triesOnce 87 rfl) (v := 1) (by decide) (n := 168) rfl ?_
                            refine p_iadd (z_dec zd_X9_triesOnce 88 rfl) (n := 169) rfl ?_
                            refine z_lv rfl (show _ = [.int (nI (n + 1)), .ref 54] from (by rw [nI_1])) rfl ?_
                            refine p_iload (z_dec zd_X9_triesOnce 89 rfl) 4 rfl (n := 171) rfl ?_
                            refine p_iconst (z_dec zd_X9_triesOnce 90 rfl) (v := 1) (by decide) (n := 172) rfl ?_
                            refine p_iadd (z_dec zd_X9_triesOnce 91 rfl) (n := 173) rfl ?_
                            refine z_lv rfl (show _ = [.int (nI (t45 + 1)), .int (nI (n + 1)), .ref 54] from (by rw [nI_1])) rfl ?_
                            refine p_iload_n (z_dec zd_X9_triesOnce 92 rfl) rfl 8 rfl (n := 174) rfl ?_
                            refine p_iconst (z_dec zd_X9_triesOnce 93 rfl) (v := 1) (by decide) (n := 175) rfl ?_
                            refine p_iload (z_dec zd_X9_triesOnce 94 rfl) 3 rfl (n := 177) rfl ?_
                            refine p_ishl (z_dec zd_X9_triesOnce 95 rfl) (n := 178) rfl ?_
                            refine p_ior (z_dec zd_X9_triesOnce 96 rfl) (n := 179) rfl ?_
                            refine p_iconst (z_dec zd_X9_triesOnce 97 rfl) (v := 1) (by decide) (n := 180) rfl ?_
                            refine p_iload (z_dec zd_X9_triesOnce 98 rfl) 2 rfl (n := 182) rfl ?_
                            refine p_ishl (z_dec zd_X9_triesOnce 99 rfl) (n := 183) rfl ?_
                            refine p_ior (z_dec zd_X9_triesOnce 100 rfl) (n := 184) rfl ?_
                            refine p_iconst (z_dec zd_X9_triesOnce 101 rfl) (v := 1) (by decide) (n := 185) rfl ?_
                            refine p_iload (z_dec zd_X9_triesOnce 102 rfl) 1 rfl (n := 187) rfl ?_
                            refine p_ishl (z_dec zd_X9_triesOnce 103 rfl) (n := 188) rfl ?_
                            refine p_ior (z_dec zd_X9_triesOnce 104 rfl) (n := 189) rfl ?_
                            refine q_callV (As := [.int (nI (n + 1)), .int (nI (t45 + 1)), .int (((gone ||| ((1 : Int32) <<< (((nI t45) / 100) &&& 31))) ||| ((1 : Int32) <<< ((((nI t45) / 10) - ((nI t45) / 10) / 10 * 10) &&& 31))) ||| ((1 : Int32) <<< (((nI t45) - (nI t45) / 10 * 10) &&& 31)))]) (rest := []) (z_dec zd_X9_triesOnce 105 rfl) zk_X9_247 zv_X9_triesOnce (hFT (t45 + 1) (((gone ||| ((1 : Int32) <<< (((nI t45) / 100) &&& 31))) ||| ((1 : Int32) <<< ((((nI t45) / 10) - ((nI t45) / 10) / 10 * 10) &&& 31))) ||| ((1 : Int32) <<< (((nI t45) - (nI t45) / 10 * 10) &&& 31))) (z_up Iv 65 n (nI t45)) hn3l (by omega) hP165) rfl ⟨_, _, rfl⟩ rfl rfl (Nat.le_of_ble_eq_true rfl) (by omega) (n := 192) rfl ?_
                            show PW zm_X9_triesOnce d 192 [(8, .int 1), (7, .int ((nI t45) - (nI t45) / 10 * 10)), (6, .int (((nI t45) / 10) - ((nI t45) / 10) / 10 * 10)), (5, .int ((nI t45) / 100)), (4, .int (nI t45)), (0, .ref 54), (1, .int (nI n)), (2, .int (nI f)), (3, .int gone)] [] SH ((FT (t45 + 1) (((gone ||| ((1 : Int32) <<< (((nI t45) / 100) &&& 31))) ||| ((1 : Int32) <<< ((((nI t45) / 10) - ((nI t45) / 10) / 10 * 10) &&& 31))) ||| ((1 : Int32) <<< (((nI t45) - (nI t45) / 10 * 10) &&& 31))) (z_up Iv 65 n (nI t45))), L, z_R b) 0 0 _
                            have hP192 : z_N np ((FT (t45 + 1) (((gone ||| ((1 : Int32) <<< (((nI t45) / 100) &&& 31))) ||| ((1 : Int32) <<< ((((nI t45) / 10) - ((nI t45) / 10) / 10 * 10) &&& 31))) ||| ((1 : Int32) <<< (((nI t45) - (nI t45) / 10 * 10) &&& 31))) (z_up Iv 65 n (nI t45)))) := hNT _ _ _ hP165
                            refine p_iinc (z_dec zd_X9_triesOnce 106 rfl) 4 rfl (v := (nI (t45 + 1))) (nI_1 _) (lv2 := [(4, .int (nI (t45 + 1))), (8, .int 1), (7, .int ((nI t45) - (nI t45) / 10 * 10)), (6, .int (((nI t45) / 10) - ((nI t45) / 10) / 10 * 10)), (5, .int ((nI t45) / 100)), (0, .ref 54), (1, .int (nI n)), (2, .int (nI f)), (3, .int gone)]) (by decide) rfl (n := 195) rfl ?_
                            refine p_goto (z_dec zd_X9_triesOnce 107 rfl) (t := 45) (by decide) ?_
                            refine z_sub (lv' := [(4, .int (nI (t45 + 1))), (0, .ref 54), (1, .int (nI n)), (2, .int (nI f)), (3, .int gone)]) [0, 5, 6, 7, 8] rfl ?_
                            rw [show gx_X9_triesOnce_45 np n gone FT (r45 + 1) t45 Iv = gx_X9_triesOnce_45 np n gone FT r45 (t45 + 1) (FT (t45 + 1) (((gone ||| ((1 : Int32) <<< (((nI t45) / 100) &&& 31))) ||| ((1 : Int32) <<< ((((nI t45) / 10) - ((nI t45) / 10) / 10 * 10) &&& 31))) ||| ((1 : Int32) <<< (((nI t45) - (nI t45) / 10 * 10) &&& 31))) (z_up Iv 65 n (nI t45))) from by (conv => lhs; unfold gx_X9_triesOnce_45); rw [if_neg h55, if_neg h86, if_pos h95, if_pos h104, if_pos h113, if_neg h129, if_neg h142]]
                            exact ih45 (t45 + 1) (FT (t45 + 1) (((gone ||| ((1 : Int32) <<< (((nI t45) / 100) &&& 31))) ||| ((1 : Int32) <<< ((((nI t45) / 10) - ((nI t45) / 10) / 10 * 10) &&& 31))) ||| ((1 : Int32) <<< (((nI t45) - (nI t45) / 10 * 10) &&& 31))) (z_up Iv 65 n (nI t45))) (by omega) hP192
      exact (by have q := (hL45 (1000 - f) f I (by omega) hN); (rw [show m_X9_triesOnce I np n f gone FT = _ from by unfold m_X9_triesOnce; rw [if_pos h5]]); exact q)
    · refine p_aload_n (z_dec zd_X9_triesOnce 4 rfl) rfl 0 rfl (n := 9) rfl ?_
      refine p_iload_n (z_dec zd_X9_triesOnce 5 rfl) rfl 1 rfl (n := 10) rfl ?_
      refine q_putI (z_dec zd_X9_triesOnce 6 rfl) zp_X9_244 (fun q => by cases q) rfl (n := 13) rfl ?_
      have hP13 : z_N np ((z_up I 54 23 (nI n))) := z_Nu2 hN (by decide) _
      refine p_iconst (z_dec zd_X9_triesOnce 7 rfl) (v := 0) (by decide) (n := 14) rfl ?_
      refine p_istore (z_dec zd_X9_triesOnce 8 rfl) (lv2 := [(4, .int 0), (0, .ref 54), (1, .int (nI n)), (2, .int (nI f)), (3, .int gone)]) (by decide) rfl (n := 16) rfl ?_
      have hL16 : ∀ (r16 t16 : Nat) (Iw16 : (Nat → Nat → Int32)), t16 + r16 = n → z_N np Iw16 → PW zm_X9_triesOnce d 42 [(0, .ref 54), (1, .int (nI n)), (2, .int (nI f)), (3, .int gone)] [] SH ((gw_X9_triesOnce_16 r16 t16 Iw16), L, z_R b) 0 0 (z_ret (none) ((m_X9_triesOnce I np n f gone FT), L, z_R b)) → PW zm_X9_triesOnce d 16 [(4, .int (nI t16)), (0, .ref 54), (1, .int (nI n)), (2, .int (nI f)), (3, .int gone)] [] SH (Iw16, L, z_R b) 0 0 (z_ret (none) ((m_X9_triesOnce I np n f gone FT), L, z_R b)) := by
        intro r16
        induction r16 with
        | zero =>
          intro t16 Iw16 ht16 hlo hk16
          refine p_iload (z_dec zd_X9_triesOnce 9 rfl) 0 rfl (n := 18) rfl ?_
          refine p_iload_n (z_dec zd_X9_triesOnce 10 rfl) rfl 2 rfl (n := 19) rfl ?_
          refine p_icmp_ge (z_dec zd_X9_triesOnce 11 rfl) (t := 42) (by decide) (n := 22) rfl (fun h19 => ?_) (fun h19 => ?_)
          · refine z_sub (lv' := [(0, .ref 54), (1, .int (nI n)), (2, .int (nI f)), (3, .int gone)]) [1, 2, 3, 4] rfl ?_
            rw [show (gw_X9_triesOnce_16 0 t16 Iw16) = Iw16 from by rfl] at hk16
            exact hk16
          · exact absurd (z_nge (a := n) h19) (by omega)
        | succ r16 ih16 =>
          intro t16 Iw16 ht16 hlo hk16
          refine p_iload (z_dec zd_X9_triesOnce 9 rfl) 0 rfl (n := 18) rfl ?_
          refine p_iload_n (z_dec zd_X9_triesOnce 10 rfl) rfl 2 rfl (n := 19) rfl ?_
          refine p_icmp_ge (z_dec zd_X9_triesOnce 11 rfl) (t := 42) (by decide) (n := 22) rfl (fun h19 => ?_) (fun h19 => ?_)
          · exact absurd (z_ge (a := n) h19) (by omega)
          · have hx16 : t16 < n := by omega
            refine p_aload_n (z_dec zd_X9_triesOnce 12 rfl) rfl 1 rfl (n := 23) rfl ?_
            refine q_getR (z_dec zd_X9_triesOnce 13 rfl) zf_X9_43 (i := 66) rfl rfl (n := 26) rfl ?_
            refine p_iload (z_dec zd_X9_triesOnce 14 rfl) 0 rfl (n := 28) rfl ?_
            refine p_aload_n (z_dec zd_X9_triesOnce 15 rfl) rfl 1 rfl (n := 29) rfl ?_
            refine q_getR (z_dec zd_X9_triesOnce 16 rfl) zf_X9_40 (i := 65) rfl rfl (n := 32) rfl ?_
            refine p_iload (z_dec zd_X9_triesOnce 17 rfl) 0 rfl (n := 34) rfl ?_
            refine q_iald (z_dec zd_X9_triesOnce 18 rfl) rfl (by decide) (t16) rfl (by omega) (v := (Iw16 65 t16)) rfl (n := 35) rfl ?_
            refine q_iast (z_dec zd_X9_triesOnce 19 rfl) rfl (by decide) (t16) rfl (by omega) (n := 36) rfl ?_
            refine p_iinc (z_dec zd_X9_triesOnce 20 rfl) 0 rfl (v := (nI (t16 + 1))) (nI_1 _) (lv2 := [(4, .int (nI (t16 + 1))), (0, .ref 54), (1, .int (nI n)), (2, .int (nI f)), (3, .int gone)]) (by decide) rfl (n := 39) rfl ?_
            refine p_goto (z_dec zd_X9_triesOnce 21 rfl) (t := 16) (by decide) ?_
            rw [show gw_X9_triesOnce_16 (r16 + 1) t16 Iw16 = gw_X9_triesOnce_16 r16 (t16 + 1) (z_up Iw16 66 t16 (Iw16 65 t16)) from by rfl] at hk16
            exact ih16 (t16 + 1) (z_up Iw16 66 t16 (Iw16 65 t16)) (by omega) (z_Nu hlo (by decide) _ _) hk16
      refine hL16 n 0 (z_up I 54 23 (nI n)) (by omega) hP13 ?_
      refine p_iload_n (z_dec zd_X9_triesOnce 22 rfl) rfl 2 rfl (n := 43) rfl ?_
      refine p_istore (z_dec zd_X9_triesOnce 23 rfl) (lv2 := [(4, .int (nI f)), (0, .ref 54), (1, .int (nI n)), (2, .int (nI f)), (3, .int gone)]) (by decide) rfl (n := 45) rfl ?_
      have hL45 : ∀ (r45 t45 : Nat) (Iv : Nat → Nat → Int32), t45 + r45 = 1000 - f + f → z_N np Iv → PW zm_X9_triesOnce d 45 [(4, .int (nI t45)), (0, .ref 54), (1, .int (nI n)), (2, .int (nI f)), (3, .int gone)] [] SH (Iv, L, z_R b) 0 0 (z_ret (none) ((gx_X9_triesOnce_45 np n gone FT r45 t45 Iv), L, z_R b)) := by
        intro r45
        induction r45 with
        | zero =>
          intro t45 Iv ht45 hlo
          refine p_iload (z_dec zd_X9_triesOnce 24 rfl) 0 rfl (n := 47) rfl ?_
          refine p_sipush (z_dec zd_X9_triesOnce 25 rfl) (v := 1000) (by decide) (n := 50) rfl ?_
          refine p_icmp_ge (z_dec zd_X9_triesOnce 26 rfl) (t := 198) (by decide) (n := 53) rfl (fun h50 => ?_) (fun h50 => ?_)
          · exact p_vret (z_dec zd_X9_triesOnce 108 rfl) rfl ⟨rfl, rfl, (z_3 rfl rfl)⟩
          · exact absurd (z_nge (a := 1000) h50) (by omega)
        | succ r45 ih45 =>
          intro t45 Iv ht45 hlo
          refine p_iload (z_dec zd_X9_triesOnce 24 rfl) 0 rfl (n := 47) rfl ?_
          refine p_sipush (z_dec zd_X9_triesOnce 25 rfl) (v := 1000) (by decide) (n := 50) rfl ?_
          refine p_icmp_ge (z_dec zd_X9_triesOnce 26 rfl) (t := 198) (by decide) (n := 53) rfl (fun h50 => ?_) (fun h50 => ?_)
          · exact absurd (z_ge (a := 1000) h50) (by omega)
          · have hx45 : t45 < 1000 - f + f := by omega
            refine p_iload_n (z_dec zd_X9_triesOnce 27 rfl) rfl 2 rfl (n := 54) rfl ?_
            refine p_iconst (z_dec zd_X9_triesOnce 28 rfl) (v := 3) (by decide) (n := 55) rfl ?_
            refine p_icmp_ge (z_dec zd_X9_triesOnce 29 rfl) (t := 198) (by decide) (n := 58) rfl (fun h55 => ?_) (fun h55 => ?_)
            · exact p_vret (z_dec zd_X9_triesOnce 108 rfl) rfl ⟨rfl, rfl, (z_3 (by (conv => rhs; unfold gx_X9_triesOnce_45); rw [if_pos h55]) rfl)⟩
            · have hn3l := z_nge (a := 3) h55
              refine p_iload (z_dec zd_X9_triesOnce 30 rfl) 0 rfl (n := 60) rfl ?_
              refine p_bipush (z_dec zd_X9_triesOnce 31 rfl) (v := 100) (by decide) (n := 62) rfl ?_
              refine p_idiv (z_dec zd_X9_triesOnce 32 rfl) (by decide) (n := 63) rfl ?_
              refine p_istore (z_dec zd_X9_triesOnce 33 rfl) (lv2 := [(5, .int ((nI t45) / 100)), (4, .int (nI t45)), (0, .ref 54), (1, .int (nI n)), (2, .int (nI f)), (3, .int gone)]) (by decide) rfl (n := 65) rfl ?_
              refine p_iload (z_dec zd_X9_triesOnce 34 rfl) 1 rfl (n := 67) rfl ?_
              refine p_bipush (z_dec zd_X9_triesOnce 35 rfl) (v := 10) (by decide) (n := 69) rfl ?_
              refine p_idiv (z_dec zd_X9_triesOnce 36 rfl) (by decide) (n := 70) rfl ?_
              refine p_bipush (z_dec zd_X9_triesOnce 37 rfl) (v := 10) (by decide) (n := 72) rfl ?_
              refine p_irem (z_dec zd_X9_triesOnce 38 rfl) (by decide) (n := 73) rfl ?_
              refine p_istore (z_dec zd_X9_triesOnce 39 rfl) (lv2 := [(6, .int (((nI t45) / 10) - ((nI t45) / 10) / 10 * 10)), (5, .int ((nI t45) / 100)), (4, .int (nI t45)), (0, .ref 54), (1, .int (nI n)), (2, .int (nI f)), (3, .int gone)]) (by decide) rfl (n := 75) rfl ?_
              refine p_iload (z_dec zd_X9_triesOnce 40 rfl) 2 rfl (n := 77) rfl ?_
              refine p_bipush (z_dec zd_X9_triesOnce 41 rfl) (v := 10) (by decide) (n := 79) rfl ?_
              refine p_irem (z_dec zd_X9_triesOnce 42 rfl) (by decide) (n := 80) rfl ?_
              refine p_istore (z_dec zd_X9_triesOnce 43 rfl) (lv2 := [(7, .int ((nI t45) - (nI t45) / 10 * 10)), (6, .int (((nI t45) / 10) - ((nI t45) / 10) / 10 * 10)), (5, .int ((nI t45) / 100)), (4, .int (nI t45)), (0, .ref 54), (1, .int (nI n)), (2, .int (nI f)), (3, .int gone)]) (by decide) rfl (n := 82) rfl ?_
              refine p_iload (z_dec zd_X9_triesOnce 44 rfl) 2 rfl (n := 84) rfl ?_
              refine p_iload (z_dec zd_X9_triesOnce 45 rfl) 1 rfl (n := 86) rfl ?_
              refine p_icmp_ge (z_dec zd_X9_triesOnce 46 rfl) (t := 149) (by decide) (n := 89) rfl (fun h86 => ?_) (fun h86 => ?_)
              · refine p_iconst (z_dec zd_X9_triesOnce 76 rfl) (v := 0) (by decide) (n := 150) rfl ?_
                refine p_istore (z_dec zd_X9_triesOnce 77 rfl) (lv2 := [(8, .int 0), (7, .int ((nI t45) - (nI t45) / 10 * 10)), (6, .int (((nI t45) / 10) - ((nI t45) / 10) / 10 * 10)), (5, .int ((nI t45) / 100)), (4, .int (nI t45)), (0, .ref 54), (1, .int (nI n)), (2, .int (nI f)), (3, .int gone)]) (by decide) rfl (n := 152) rfl ?_
                refine p_iload (z_dec zd_X9_triesOnce 78 rfl) 0 rfl (n := 154) rfl ?_
                refine p_if_eq (z_dec zd_X9_triesOnce 79 rfl) (t := 192) (by decide) (n := 157) rfl (fun h154 => ?_) (fun h154 => ?_)
                · skip
                  refine p_iinc (z_dec zd_X9_triesOnce 106 rfl) 4 rfl (v := (nI (t45 + 1))) (nI_1 _) (lv2 := [(4, .int (nI (t45 + 1))), (8, .int 0), (7, .int ((nI t45) - (nI t45) / 10 * 10)), (6, .int (((nI t45) / 10) - ((nI t45) / 10) / 10 * 10)), (5, .int ((nI t45) / 100)), (0, .ref 54), (1, .int (nI n)), (2, .int (nI f)), (3, .int gone)]) (by decide) rfl (n := 195) rfl ?_
                  refine p_goto (z_dec zd_X9_triesOnce 107 rfl) (t := 45) (by decide) ?_
                  refine z_sub (lv' := [(4, .int (nI (t45 + 1))), (0, .ref 54), (1, .int (nI n)), (2, .int (nI f)), (3, .int gone)]) [0, 5, 6, 7, 8] rfl ?_
                  rw [show gx_X9_triesOnce_45 np n gone FT (r45 + 1) t45 Iv = gx_X9_triesOnce_45 np n gone FT r45 (t45 + 1) Iv from by (conv => lhs; unfold gx_X9_triesOnce_45); rw [if_neg h55, if_pos h86]]
                  exact ih45 (t45 + 1) Iv (by omega) hlo
                · exact absurd h154 (by decide)
              · refine p_iload_n (z_dec zd_X9_triesOnce 47 rfl) rfl 7 rfl (n := 90) rfl ?_
                refine p_iload (z_dec zd_X9_triesOnce 48 rfl) 2 rfl (n := 92) rfl ?_
                refine q_callS (As := [.int gone, .int ((nI t45) / 100)]) (rest := []) (z_dec zd_X9_triesOnce 49 rfl) zk_X9_216 zs_X9_isIn (c_X9_isIn (d - 1) (by omega) b Iv L gone ((nI t45) / 100)) rfl rfl (Nat.le_of_ble_eq_true rfl) (by omega) (n := 95) rfl ?_
                show PW zm_X9_triesOnce d 95 [(7, .int ((nI t45) - (nI t45) / 10 * 10)), (6, .int (((nI t45) / 10) - ((nI t45) / 10) / 10 * 10)), (5, .int ((nI t45) / 100)), (4, .int (nI t45)), (0, .ref 54), (1, .int (nI n)), (2, .int (nI f)), (3, .int gone)] [.int (f_X9_isIn gone ((nI t45) / 100))] SH (Iv, L, z_R b) 0 0 _
                refine p_if_ne (z_dec zd_X9_triesOnce 50 rfl) (t := 149) (by decide) (n := 98) rfl (fun h95 => ?_) (fun h95 => ?_)
                · refine p_iconst (z_dec zd_X9_triesOnce 76 rfl) (v := 0) (by decide) (n := 150) rfl ?_
                  refine p_istore (z_dec zd_X9_triesOnce 77 rfl) (lv2 := [(8, .int 0), (7, .int ((nI t45) - (nI t45) / 10 * 10)), (6, .int (((nI t45) / 10) - ((nI t45) / 10) / 10 * 10)), (5, .int ((nI t45) / 100)), (4, .int (nI t45)), (0, .ref 54), (1, .int (nI n)), (2, .int (nI f)), (3, .int gone)]) (by decide) rfl (n := 152) rfl ?_
                  refine p_iload (z_dec zd_X9_triesOnce 78 rfl) 0 rfl (n := 154) rfl ?_
                  refine p_if_eq (z_dec zd_X9_triesOnce 79 rfl) (t := 192) (by decide) (n := 157) rfl (fun h154 => ?_) (fun h154 => ?_)
                  · skip
                    refine p_iinc (z_dec zd_X9_triesOnce 106 rfl) 4 rfl (v := (nI (t45 + 1))) (nI_1 _) (lv2 := [(4, .int (nI (t45 + 1))), (8, .int 0), (7, .int ((nI t45) - (nI t45) / 10 * 10)), (6, .int (((nI t45) / 10) - ((nI t45) / 10) / 10 * 10)), (5, .int ((nI t45) / 100)), (0, .ref 54), (1, .int (nI n)), (2, .int (nI f)), (3, .int gone)]) (by decide) rfl (n := 195) rfl ?_
                    refine p_goto (z_dec zd_X9_triesOnce 107 rfl) (t := 45) (by decide) ?_
                    refine z_sub (lv' := [(4, .int (nI (t45 + 1))), (0, .ref 54), (1, .int (nI n)), (2, .int (nI f)), (3, .int gone)]) [0, 5, 6, 7, 8] rfl ?_
                    rw [show gx_X9_triesOnce_45 np n gone FT (r45 + 1) t45 Iv = gx_X9_triesOnce_45 np n gone FT r45 (t45 + 1) Iv from by (conv => lhs; unfold gx_X9_triesOnce_45); rw [if_neg h55, if_neg h86, if_neg h95]]
                    exact ih45 (t45 + 1) Iv (by omega) hlo
                  · exact absurd h154 (by decide)
                · refine p_iload_n (z_dec zd_X9_triesOnce 51 rfl) rfl 7 rfl (n := 99) rfl ?_
                  refine p_iload (z_dec zd_X9_triesOnce 52 rfl) 1 rfl (n := 101) rfl ?_
                  refine q_callS (As := [.int gone, .int (((nI t45) / 10) - ((nI t45) / 10) / 10 * 10)]) (rest := []) (z_dec zd_X9_triesOnce 53 rfl) zk_X9_216 zs_X9_isIn (c_X9_isIn (d - 1) (by omega) b Iv L gone (((nI t45) / 10) - ((nI t45) / 10) / 10 * 10)) rfl rfl (Nat.le_of_ble_eq_true rfl) (by omega) (n := 104) rfl ?_
                  show PW zm_X9_triesOnce d 104 [(7, .int ((nI t45) - (nI t45) / 10 * 10)), (6, .int (((nI t45) / 10) - ((nI t45) / 10) / 10 * 10)), (5, .int ((nI t45) / 100)), (4, .int (nI t45)), (0, .ref 54), (1, .int (nI n)), (2, .int (nI f)), (3, .int gone)] [.int (f_X9_isIn gone (((nI t45) / 10) - ((nI t45) / 10) / 10 * 10))] SH (Iv, L, z_R b) 0 0 _
                  refine p_if_ne (z_dec zd_X9_triesOnce 54 rfl) (t := 149) (by decide) (n := 107) rfl (fun h104 => ?_) (fun h104 => ?_)
                  · refine p_iconst (z_dec zd_X9_triesOnce 76 rfl) (v := 0) (by decide) (n := 150) rfl ?_
                    refine p_istore (z_dec zd_X9_triesOnce 77 rfl) (lv2 := [(8, .int 0), (7, .int ((nI t45) - (nI t45) / 10 * 10)), (6, .int (((nI t45) / 10) - ((nI t45) / 10) / 10 * 10)), (5, .int ((nI t45) / 100)), (4, .int (nI t45)), (0, .ref 54), (1, .int (nI n)), (2, .int (nI f)), (3, .int gone)]) (by decide) rfl (n := 152) rfl ?_
                    refine p_iload (z_dec zd_X9_triesOnce 78 rfl) 0 rfl (n := 154) rfl ?_
                    refine p_if_eq (z_dec zd_X9_triesOnce 79 rfl) (t := 192) (by decide) (n := 157) rfl (fun h154 => ?_) (fun h154 => ?_)
                    · skip
                      refine p_iinc (z_dec zd_X9_triesOnce 106 rfl) 4 rfl (v := (nI (t45 + 1))) (nI_1 _) (lv2 := [(4, .int (nI (t45 + 1))), (8, .int 0), (7, .int ((nI t45) - (nI t45) / 10 * 10)), (6, .int (((nI t45) / 10) - ((nI t45) / 10) / 10 * 10)), (5, .int ((nI t45) / 100)), (0, .ref 54), (1, .int (nI n)), (2, .int (nI f)), (3, .int gone)]) (by decide) rfl (n := 195) rfl ?_
                      refine p_goto (z_dec zd_X9_triesOnce 107 rfl) (t := 45) (by decide) ?_
                      refine z_sub (lv' := [(4, .int (nI (t45 + 1))), (0, .ref 54), (1, .int (nI n)), (2, .int (nI f)), (3, .int gone)]) [0, 5, 6, 7, 8] rfl ?_
                      rw [show gx_X9_triesOnce_45 np n gone FT (r45 + 1) t45 Iv = gx_X9_triesOnce_45 np n gone FT r45 (t45 + 1) Iv from by (conv => lhs; unfold gx_X9_triesOnce_45); rw [if_neg h55, if_neg h86, if_pos h95, if_neg h104]]
                      exact ih45 (t45 + 1) Iv (by omega) hlo
                    · exact absurd h154 (by decide)
                  · refine p_iload_n (z_dec zd_X9_triesOnce 55 rfl) rfl 7 rfl (n := 108) rfl ?_
                    refine p_iload (z_dec zd_X9_triesOnce 56 rfl) 0 rfl (n := 110) rfl ?_
                    refine q_callS (As := [.int gone, .int ((nI t45) - (nI t45) / 10 * 10)]) (rest := []) (z_dec zd_X9_triesOnce 57 rfl) zk_X9_216 zs_X9_isIn (c_X9_isIn (d - 1) (by omega) b Iv L gone ((nI t45) - (nI t45) / 10 * 10)) rfl rfl (Nat.le_of_ble_eq_true rfl) (by omega) (n := 113) rfl ?_
                    show PW zm_X9_triesOnce d 113 [(7, .int ((nI t45) - (nI t45) / 10 * 10)), (6, .int (((nI t45) / 10) - ((nI t45) / 10) / 10 * 10)), (5, .int ((nI t45) / 100)), (4, .int (nI t45)), (0, .ref 54), (1, .int (nI n)), (2, .int (nI f)), (3, .int gone)] [.int (f_X9_isIn gone ((nI t45) - (nI t45) / 10 * 10))] SH (Iv, L, z_R b) 0 0 _
                    refine p_if_ne (z_dec zd_X9_triesOnce 58 rfl) (t := 149) (by decide) (n := 116) rfl (fun h113 => ?_) (fun h113 => ?_)
                    · refine p_iconst (z_dec zd_X9_triesOnce 76 rfl) (v := 0) (by decide) (n := 150) rfl ?_
                      refine p_istore (z_dec zd_X9_triesOnce 77 rfl) (lv2 := [(8, .int 0), (7, .int ((nI t45) - (nI t45) / 10 * 10)), (6, .int (((nI t45) / 10) - ((nI t45) / 10) / 10 * 10)), (5, .int ((nI t45) / 100)), (4, .int (nI t45)), (0, .ref 54), (1, .int (nI n)), (2, .int (nI f)), (3, .int gone)]) (by decide) rfl (n := 152) rfl ?_
                      refine p_iload (z_dec zd_X9_triesOnce 78 rfl) 0 rfl (n := 154) rfl ?_
                      refine p_if_eq (z_dec zd_X9_triesOnce 79 rfl) (t := 192) (by decide) (n := 157) rfl (fun h154 => ?_) (fun h154 => ?_)
                      · skip
                        refine p_iinc (z_dec zd_X9_triesOnce 106 rfl) 4 rfl (v := (nI (t45 + 1))) (nI_1 _) (lv2 := [(4, .int (nI (t45 + 1))), (8, .int 0), (7, .int ((nI t45) - (nI t45) / 10 * 10)), (6, .int (((nI t45) / 10) - ((nI t45) / 10) / 10 * 10)), (5, .int ((nI t45) / 100)), (0, .ref 54), (1, .int (nI n)), (2, .int (nI f)), (3, .int gone)]) (by decide) rfl (n := 195) rfl ?_
                        refine p_goto (z_dec zd_X9_triesOnce 107 rfl) (t := 45) (by decide) ?_
                        refine z_sub (lv' := [(4, .int (nI (t45 + 1))), (0, .ref 54), (1, .int (nI n)), (2, .int (nI f)), (3, .int gone)]) [0, 5, 6, 7, 8] rfl ?_
                        rw [show gx_X9_triesOnce_45 np n gone FT (r45 + 1) t45 Iv = gx_X9_triesOnce_45 np n gone FT r45 (t45 + 1) Iv from by (conv => lhs; unfold gx_X9_triesOnce_45); rw [if_neg h55, if_neg h86, if_pos h95, if_pos h104, if_neg h113]]
                        exact ih45 (t45 + 1) Iv (by omega) hlo
                      · exact absurd h154 (by decide)
                    · refine p_aload_n (z_dec zd_X9_triesOnce 59 rfl) rfl 4 rfl (n := 117) rfl ?_
                      refine p_iload (z_dec zd_X9_triesOnce 60 rfl) 2 rfl (n := 119) rfl ?_
                      refine p_i2l (z_dec zd_X9_triesOnce 61 rfl) (n := 120) rfl ?_
                      refine p_iload (z_dec zd_X9_triesOnce 62 rfl) 1 rfl (n := 122) rfl ?_
                      refine p_i2l (z_dec zd_X9_triesOnce 63 rfl) (n := 123) rfl ?_
                      refine p_iload (z_dec zd_X9_triesOnce 64 rfl) 0 rfl (n := 125) rfl ?_
                      refine p_i2l (z_dec zd_X9_triesOnce 65 rfl) (n := 126) rfl ?_
                      refine q_callV (As := [.long (((nI t45) / 100).toInt64), .long ((((nI t45) / 10) - ((nI t45) / 10) / 10 * 10).toInt64), .long (((nI t45) - (nI t45) / 10 * 10).toInt64)]) (rest := []) (z_dec zd_X9_triesOnce 66 rfl) zk_X9_200 zv_X9_areThree (c_X9_areThree (d - 1) (by omega) b Iv L np hlo hn10 (((nI t45) / 100).toInt64) ((((nI t45) / 10) - ((nI t45) / 10) / 10 * 10).toInt64) (((nI t45) - (nI t45) / 10 * 10).toInt64)) rfl ⟨_, _, rfl⟩ rfl rfl (Nat.le_of_ble_eq_true rfl) (by omega) (n := 129) rfl ?_
                      show PW zm_X9_triesOnce d 129 [(7, .int ((nI t45) - (nI t45) / 10 * 10)), (6, .int (((nI t45) / 10) - ((nI t45) / 10) / 10 * 10)), (5, .int ((nI t45) / 100)), (4, .int (nI t45)), (0, .ref 54), (1, .int (nI n)), (2, .int (nI f)), (3, .int gone)] [.int (f_X9_areThree np (((nI t45) / 100).toInt64) ((((nI t45) / 10) - ((nI t45) / 10) / 10 * 10).toInt64) (((nI t45) - (nI t45) / 10 * 10).toInt64))] SH (Iv, L, z_R b) 0 0 _
                      refine p_if_eq (z_dec zd_X9_triesOnce 67 rfl) (t := 149) (by decide) (n := 132) rfl (fun h129 => ?_) (fun h129 => ?_)
                      · refine p_iconst (z_dec zd_X9_triesOnce 76 rfl) (v := 0) (by decide) (n := 150) rfl ?_
                        refine p_istore (z_dec zd_X9_triesOnce 77 rfl) (lv2 := [(8, .int 0), (7, .int ((nI t45) - (nI t45) / 10 * 10)), (6, .int (((nI t45) / 10) - ((nI t45) / 10) / 10 * 10)), (5, .int ((nI t45) / 100)), (4, .int (nI t45)), (0, .ref 54), (1, .int (nI n)), (2, .int (nI f)), (3, .int gone)]) (by decide) rfl (n := 152) rfl ?_
                        refine p_iload (z_dec zd_X9_triesOnce 78 rfl) 0 rfl (n := 154) rfl ?_
                        refine p_if_eq (z_dec zd_X9_triesOnce 79 rfl) (t := 192) (by decide) (n := 157) rfl (fun h154 => ?_) (fun h154 => ?_)
                        · skip
                          refine p_iinc (z_dec zd_X9_triesOnce 106 rfl) 4 rfl (v := (nI (t45 + 1))) (nI_1 _) (lv2 := [(4, .int (nI (t45 + 1))), (8, .int 0), (7, .int ((nI t45) - (nI t45) / 10 * 10)), (6, .int (((nI t45) / 10) - ((nI t45) / 10) / 10 * 10)), (5, .int ((nI t45) / 100)), (0, .ref 54), (1, .int (nI n)), (2, .int (nI f)), (3, .int gone)]) (by decide) rfl (n := 195) rfl ?_
                          refine p_goto (z_dec zd_X9_triesOnce 107 rfl) (t := 45) (by decide) ?_
                          refine z_sub (lv' := [(4, .int (nI (t45 + 1))), (0, .ref 54), (1, .int (nI n)), (2, .int (nI f)), (3, .int gone)]) [0, 5, 6, 7, 8] rfl ?_
                          rw [show gx_X9_triesOnce_45 np n gone FT (r45 + 1) t45 Iv = gx_X9_triesOnce_45 np n gone FT r45 (t45 + 1) Iv from by (conv => lhs; unfold gx_X9_triesOnce_45); rw [if_neg h55, if_neg h86, if_pos h95, if_pos h104, if_pos h113, if_pos h129]]
                          exact ih45 (t45 + 1) Iv (by omega) hlo
                        · exact absurd h154 (by decide)
                      · have hu := z_thr3 hn10 h129
                        refine p_aload_n (z_dec zd_X9_triesOnce 68 rfl) rfl 4 rfl (n := 133) rfl ?_
                        refine p_iload (z_dec zd_X9_triesOnce 69 rfl) 2 rfl (n := 135) rfl ?_
                        refine p_iload (z_dec zd_X9_triesOnce 70 rfl) 1 rfl (n := 137) rfl ?_
                        refine p_iload (z_dec zd_X9_triesOnce 71 rfl) 0 rfl (n := 139) rfl ?_
                        refine q_callV (As := [.int (nI (((nI t45) / 100).toNatClampNeg)), .int (nI ((((nI t45) / 10) - ((nI t45) / 10) / 10 * 10).toNatClampNeg)), .int (nI (((nI t45) - (nI t45) / 10 * 10).toNatClampNeg))]) (rest := []) (z_dec zd_X9_triesOnce 72 rfl) zk_X9_219 zv_X9_canBeHeld (c_X9_canBeHeld (d - 1) (by omega) b Iv L (((nI t45) / 100).toNatClampNeg) (Nat.lt_of_lt_of_le hu.1.2 hn10) ((((nI t45) / 10) - ((nI t45) / 10) / 10 * 10).toNatClampNeg) (Nat.lt_of_lt_of_le hu.2.1.2 hn10) (((nI t45) - (nI t45) / 10 * 10).toNatClampNeg) (Nat.lt_of_lt_of_le hu.2.2.2 hn10)) rfl ⟨_, _, rfl⟩ (by simp only [← hu.1.1, ← hu.2.1.1, ← hu.2.2.1]; rfl) rfl (Nat.le_of_ble_eq_true rfl) (by omega) (n := 142) rfl ?_
                        show PW zm_X9_triesOnce d 142 [(7, .int ((nI t45) - (nI t45) / 10 * 10)), (6, .int (((nI t45) / 10) - ((nI t45) / 10) / 10 * 10)), (5, .int ((nI t45) / 100)), (4, .int (nI t45)), (0, .ref 54), (1, .int (nI n)), (2, .int (nI f)), (3, .int gone)] [.int (f_X9_canBeHeld Iv (((nI t45) / 100).toNatClampNeg) ((((nI t45) / 10) - ((nI t45) / 10) / 10 * 10).toNatClampNeg) (((nI t45) - (nI t45) / 10 * 10).toNatClampNeg))] SH (Iv, L, z_R b) 0 0 _
                        refine p_if_eq (z_dec zd_X9_triesOnce 73 rfl) (t := 149) (by decide) (n := 145) rfl (fun h142 => ?_) (fun h142 => ?_)
                        · refine p_iconst (z_dec zd_X9_triesOnce 76 rfl) (v := 0) (by decide) (n := 150) rfl ?_
                          refine p_istore (z_dec zd_X9_triesOnce 77 rfl) (lv2 := [(8, .int 0), (7, .int ((nI t45) - (nI t45) / 10 * 10)), (6, .int (((nI t45) / 10) - ((nI t45) / 10) / 10 * 10)), (5, .int ((nI t45) / 100)), (4, .int (nI t45)), (0, .ref 54), (1, .int (nI n)), (2, .int (nI f)), (3, .int gone)]) (by decide) rfl (n := 152) rfl ?_
                          refine p_iload (z_dec zd_X9_triesOnce 78 rfl) 0 rfl (n := 154) rfl ?_
                          refine p_if_eq (z_dec zd_X9_triesOnce 79 rfl) (t := 192) (by decide) (n := 157) rfl (fun h154 => ?_) (fun h154 => ?_)
                          · skip
                            refine p_iinc (z_dec zd_X9_triesOnce 106 rfl) 4 rfl (v := (nI (t45 + 1))) (nI_1 _) (lv2 := [(4, .int (nI (t45 + 1))), (8, .int 0), (7, .int ((nI t45) - (nI t45) / 10 * 10)), (6, .int (((nI t45) / 10) - ((nI t45) / 10) / 10 * 10)), (5, .int ((nI t45) / 100)), (0, .ref 54), (1, .int (nI n)), (2, .int (nI f)), (3, .int gone)]) (by decide) rfl (n := 195) rfl ?_
                            refine p_goto (z_dec zd_X9_triesOnce 107 rfl) (t := 45) (by decide) ?_
                            refine z_sub (lv' := [(4, .int (nI (t45 + 1))), (0, .ref 54), (1, .int (nI n)), (2, .int (nI f)), (3, .int gone)]) [0, 5, 6, 7, 8] rfl ?_
                            rw [show gx_X9_triesOnce_45 np n gone FT (r45 + 1) t45 Iv = gx_X9_triesOnce_45 np n gone FT r45 (t45 + 1) Iv from by (conv => lhs; unfold gx_X9_triesOnce_45); rw [if_neg h55, if_neg h86, if_pos h95, if_pos h104, if_pos h113, if_neg h129, if_pos h142]]
                            exact ih45 (t45 + 1) Iv (by omega) hlo
                          · exact absurd h154 (by decide)
                        · refine p_iconst (z_dec zd_X9_triesOnce 74 rfl) (v := 1) (by decide) (n := 146) rfl ?_
                          refine p_goto (z_dec zd_X9_triesOnce 75 rfl) (t := 150) (by decide) ?_
                          refine p_istore (z_dec zd_X9_triesOnce 77 rfl) (lv2 := [(8, .int 1), (7, .int ((nI t45) - (nI t45) / 10 * 10)), (6, .int (((nI t45) / 10) - ((nI t45) / 10) / 10 * 10)), (5, .int ((nI t45) / 100)), (4, .int (nI t45)), (0, .ref 54), (1, .int (nI n)), (2, .int (nI f)), (3, .int gone)]) (by decide) rfl (n := 152) rfl ?_
                          refine p_iload (z_dec zd_X9_triesOnce 78 rfl) 0 rfl (n := 154) rfl ?_
                          refine p_if_eq (z_dec zd_X9_triesOnce 79 rfl) (t := 192) (by decide) (n := 157) rfl (fun h154 => ?_) (fun h154 => ?_)
                          · exact absurd h154 (by decide)
                          · refine p_aload_n (z_dec zd_X9_triesOnce 80 rfl) rfl 5 rfl (n := 158) rfl ?_
                            refine q_getR (z_dec zd_X9_triesOnce 81 rfl) zf_X9_40 (i := 65) rfl rfl (n := 161) rfl ?_
                            refine p_iload_n (z_dec zd_X9_triesOnce 82 rfl) rfl 6 rfl (n := 162) rfl ?_
                            refine p_iload (z_dec zd_X9_triesOnce 83 rfl) 4 rfl (n := 164) rfl ?_
                            refine q_iast (z_dec zd_X9_triesOnce 84 rfl) rfl (by decide) (n) rfl (by omega) (n := 165) rfl ?_
                            have hP165 : z_N np ((z_up Iv 65 n (nI t45))) := z_Nu hlo (by decide) _ _
                            refine p_aload_n (z_dec zd_X9_triesOnce 85 rfl) rfl 5 rfl (n := 166) rfl ?_
                            refine p_iload_n (z_dec zd_X9_triesOnce 86 rfl) rfl 6 rfl (n := 167) rfl ?_
                            refine p_iconst (z_dec zd_X9_triesOnce 87 rfl) (v := 1) (by decide) (n := 168) rfl ?_
                            refine p_iadd (z_dec zd_X9_triesOnce 88 rfl) (n := 169) rfl ?_
                            refine z_lv rfl (show _ = [.int (nI (n + 1)), .ref 54] from (by rw [nI_1])) rfl ?_
                            refine p_iload (z_dec zd_X9_triesOnce 89 rfl) 4 rfl (n := 171) rfl ?_
                            refine p_iconst (z_dec zd_X9_triesOnce 90 rfl) (v := 1) (by decide) (n := 172) rfl ?_
                            refine p_iadd (z_dec zd_X9_triesOnce 91 rfl) (n := 173) rfl ?_
                            refine z_lv rfl (show _ = [.int (nI (t45 + 1)), .int (nI (n + 1)), .ref 54] from (by rw [nI_1])) rfl ?_
                            refine p_iload_n (z_dec zd_X9_triesOnce 92 rfl) rfl 8 rfl (n := 174) rfl ?_
                            refine p_iconst (z_dec zd_X9_triesOnce 93 rfl) (v := 1) (by decide) (n := 175) rfl ?_
                            refine p_iload (z_dec zd_X9_triesOnce 94 rfl) 3 rfl (n := 177) rfl ?_
                            refine p_ishl (z_dec zd_X9_triesOnce 95 rfl) (n := 178) rfl ?_
                            refine p_ior (z_dec zd_X9_triesOnce 96 rfl) (n := 179) rfl ?_
                            refine p_iconst (z_dec zd_X9_triesOnce 97 rfl) (v := 1) (by decide) (n := 180) rfl ?_
                            refine p_iload (z_dec zd_X9_triesOnce 98 rfl) 2 rfl (n := 182) rfl ?_
                            refine p_ishl (z_dec zd_X9_triesOnce 99 rfl) (n := 183) rfl ?_
                            refine p_ior (z_dec zd_X9_triesOnce 100 rfl) (n := 184) rfl ?_
                            refine p_iconst (z_dec zd_X9_triesOnce 101 rfl) (v := 1) (by decide) (n := 185) rfl ?_
                            refine p_iload (z_dec zd_X9_triesOnce 102 rfl) 1 rfl (n := 187) rfl ?_
                            refine p_ishl (z_dec zd_X9_triesOnce 103 rfl) (n := 188) rfl ?_
                            refine p_ior (z_dec zd_X9_triesOnce 104 rfl) (n := 189) rfl ?_
                            refine q_callV (As := [.int (nI (n + 1)), .int (nI (t45 + 1)), .int (((gone ||| ((1 : Int32) <<< (((nI t45) / 100) &&& 31))) ||| ((1 : Int32) <<< ((((nI t45) / 10) - ((nI t45) / 10) / 10 * 10) &&& 31))) ||| ((1 : Int32) <<< (((nI t45) - (nI t45) / 10 * 10) &&& 31)))]) (rest := []) (z_dec zd_X9_triesOnce 105 rfl) zk_X9_247 zv_X9_triesOnce (hFT (t45 + 1) (((gone ||| ((1 : Int32) <<< (((nI t45) / 100) &&& 31))) ||| ((1 : Int32) <<< ((((nI t45) / 10) - ((nI t45) / 10) / 10 * 10) &&& 31))) ||| ((1 : Int32) <<< (((nI t45) - (nI t45) / 10 * 10) &&& 31))) (z_up Iv 65 n (nI t45)) hn3l (by omega) hP165) rfl ⟨_, _, rfl⟩ rfl rfl (Nat.le_of_ble_eq_true rfl) (by omega) (n := 192) rfl ?_
                            show PW zm_X9_triesOnce d 192 [(8, .int 1), (7, .int ((nI t45) - (nI t45) / 10 * 10)), (6, .int (((nI t45) / 10) - ((nI t45) / 10) / 10 * 10)), (5, .int ((nI t45) / 100)), (4, .int (nI t45)), (0, .ref 54), (1, .int (nI n)), (2, .int (nI f)), (3, .int gone)] [] SH ((FT (t45 + 1) (((gone ||| ((1 : Int32) <<< (((nI t45) / 100) &&& 31))) ||| ((1 : Int32) <<< ((((nI t45) / 10) - ((nI t45) / 10) / 10 * 10) &&& 31))) ||| ((1 : Int32) <<< (((nI t45) - (nI t45) / 10 * 10) &&& 31))) (z_up Iv 65 n (nI t45))), L, z_R b) 0 0 _
                            have hP192 : z_N np ((FT (t45 + 1) (((gone ||| ((1 : Int32) <<< (((nI t45) / 100) &&& 31))) ||| ((1 : Int32) <<< ((((nI t45) / 10) - ((nI t45) / 10) / 10 * 10) &&& 31))) ||| ((1 : Int32) <<< (((nI t45) - (nI t45) / 10 * 10) &&& 31))) (z_up Iv 65 n (nI t45)))) := hNT _ _ _ hP165
                            refine p_iinc (z_dec zd_X9_triesOnce 106 rfl) 4 rfl (v := (nI (t45 + 1))) (nI_1 _) (lv2 := [(4, .int (nI (t45 + 1))), (8, .int 1), (7, .int ((nI t45) - (nI t45) / 10 * 10)), (6, .int (((nI t45) / 10) - ((nI t45) / 10) / 10 * 10)), (5, .int ((nI t45) / 100)), (0, .ref 54), (1, .int (nI n)), (2, .int (nI f)), (3, .int gone)]) (by decide) rfl (n := 195) rfl ?_
                            refine p_goto (z_dec zd_X9_triesOnce 107 rfl) (t := 45) (by decide) ?_
                            refine z_sub (lv' := [(4, .int (nI (t45 + 1))), (0, .ref 54), (1, .int (nI n)), (2, .int (nI f)), (3, .int gone)]) [0, 5, 6, 7, 8] rfl ?_
                            rw [show gx_X9_triesOnce_45 np n gone FT (r45 + 1) t45 Iv = gx_X9_triesOnce_45 np n gone FT r45 (t45 + 1) (FT (t45 + 1) (((gone ||| ((1 : Int32) <<< (((nI t45) / 100) &&& 31))) ||| ((1 : Int32) <<< ((((nI t45) / 10) - ((nI t45) / 10) / 10 * 10) &&& 31))) ||| ((1 : Int32) <<< (((nI t45) - (nI t45) / 10 * 10) &&& 31))) (z_up Iv 65 n (nI t45))) from by (conv => lhs; unfold gx_X9_triesOnce_45); rw [if_neg h55, if_neg h86, if_pos h95, if_pos h104, if_pos h113, if_neg h129, if_neg h142]]
                            exact ih45 (t45 + 1) (FT (t45 + 1) (((gone ||| ((1 : Int32) <<< (((nI t45) / 100) &&& 31))) ||| ((1 : Int32) <<< ((((nI t45) / 10) - ((nI t45) / 10) / 10 * 10) &&& 31))) ||| ((1 : Int32) <<< (((nI t45) - (nI t45) / 10 * 10) &&& 31))) (z_up Iv 65 n (nI t45))) (by omega) hP192
      exact (by have q := (hL45 (1000 - f) f (gw_X9_triesOnce_16 n 0 (z_up I 54 23 (nI n))) (by omega) (gi_gw_X9_triesOnce_16 _ _ _ hP13)); (rw [show m_X9_triesOnce I np n f gone FT = _ from by unfold m_X9_triesOnce; rw [if_neg h5]]); exact q)
  exact hentry
theorem z_Ngx45 {np n : Nat} {gone : Int32} {FT : Nat → Int32 → (Nat → Nat → Int32) → (Nat → Nat → Int32)} (hNT : ∀ (f : Nat) (g : Int32) (J : (Nat → Nat → Int32)), z_N np J → z_N np (FT f g J)) : ∀ (r t : Nat) (Iv : (Nat → Nat → Int32)), z_N np Iv → z_N np (gx_X9_triesOnce_45 np n gone FT r t Iv)
  | 0, t, Iv, h => h
  | r + 1, t, Iv, h => by
    unfold gx_X9_triesOnce_45
    (repeat' split) <;> first | exact h | exact z_Ngx45 hNT r (t + 1) _ h | exact z_Ngx45 hNT r (t + 1) _ (hNT _ _ _ (z_Nu h (by decide) _ _))
theorem z_Nto {np n f : Nat} {gone : Int32} {FT : Nat → Int32 → (Nat → Nat → Int32) → (Nat → Nat → Int32)} (hNT : ∀ (f : Nat) (g : Int32) (J : (Nat → Nat → Int32)), z_N np J → z_N np (FT f g J)) {I : (Nat → Nat → Int32)} (h : z_N np I) : z_N np (m_X9_triesOnce I np n f gone FT) := by
  unfold m_X9_triesOnce
  by_cases q : nI n ≤ I 54 23
  · rw [if_pos q]; exact z_Ngx45 hNT _ _ _ h
  · rw [if_neg q]; exact z_Ngx45 hNT _ _ _ (gi_gw_X9_triesOnce_16 _ _ _ (z_Nu2 h (by decide) _))
/-- most at once: 3 at most -/
def z_M3 (I : (Nat → Nat → Int32)) : Prop := ∃ q : Nat, q ≤ 3 ∧ I 54 23 = nI q
theorem z_M3u {I : (Nat → Nat → Int32)} (h : z_M3 I) {k : Nat} (hk : k ≠ 54) (j : Nat) (v : Int32) : z_M3 (z_up I k j v) := by
  obtain ⟨q, hq, e⟩ := h
  exact ⟨q, hq, (z_up_k _ _ (fun w => hk w.symm)).trans e⟩
theorem z_M3w {I : (Nat → Nat → Int32)} (h : z_M3 I) : ∀ (r t : Nat), z_M3 (gw_X9_triesOnce_16 r t I)
  | 0, t => h
  | r + 1, t => by
    unfold gw_X9_triesOnce_16
    exact z_M3w (z_M3u h (by decide) _ _) r (t + 1)
theorem z_M3g {np n : Nat} {gone : Int32} {FT : Nat → Int32 → (Nat → Nat → Int32) → (Nat → Nat → Int32)} (hNT : ∀ (f : Nat) (g : Int32) (J : (Nat → Nat → Int32)), z_M3 J → z_M3 (FT f g J)) : ∀ (r t : Nat) (Iv : (Nat → Nat → Int32)), z_M3 Iv → z_M3 (gx_X9_triesOnce_45 np n gone FT r t Iv)
  | 0, t, Iv, h => h
  | r + 1, t, Iv, h => by
    unfold gx_X9_triesOnce_45
    (repeat' split) <;> first | exact h | exact z_M3g hNT r (t + 1) _ h | exact z_M3g hNT r (t + 1) _ (hNT _ _ _ (z_M3u h (by decide) _ _))
theorem z_M3o {np n f : Nat} (hn : n ≤ 3) {gone : Int32} {FT : Nat → Int32 → (Nat → Nat → Int32) → (Nat → Nat → Int32)} (hNT : ∀ (f : Nat) (g : Int32) (J : (Nat → Nat → Int32)), z_M3 J → z_M3 (FT f g J)) {I : (Nat → Nat → Int32)} (h : z_M3 I) : z_M3 (m_X9_triesOnce I np n f gone FT) := by
  unfold m_X9_triesOnce
  by_cases q : nI n ≤ I 54 23
  · rw [if_pos q]; exact z_M3g hNT _ _ _ h
  · rw [if_neg q]; exact z_M3g hNT _ _ _ (z_M3w ⟨n, hn, z_up_s _ _ _ _⟩ _ _)
/-- tries with 3 - m matches beside -/
def z_tr (np : Nat) : Nat → Nat → Int32 → (Nat → Nat → Int32) → (Nat → Nat → Int32)
  | 0 => fun f g J => m_X9_triesOnce J np 3 f g (fun _ _ K => K)
  | m + 1 => fun f g J => m_X9_triesOnce J np (3 - (m + 1)) f g (z_tr np m)
theorem z_trN {np : Nat} : ∀ (m f : Nat) (g : Int32) (J : (Nat → Nat → Int32)), z_N np J → z_N np (z_tr np m f g J)
  | 0, f, g, J, h => z_Nto (fun _ _ _ h => h) h
  | m + 1, f, g, J, h => z_Nto (z_trN m) h
theorem z_trM {np : Nat} : ∀ (m f : Nat) (g : Int32) (J : (Nat → Nat → Int32)), z_M3 J → z_M3 (z_tr np m f g J)
  | 0, f, g, J, h => z_M3o (by omega) (fun _ _ _ h => h) h
  | m + 1, f, g, J, h => z_M3o (by omega) (z_trM m) h
theorem c_tr (b : Bool) (L : Nat → Nat → Int64) {np : Nat} (hn10 : np ≤ 10) : ∀ (m d f : Nat) (g : Int32) (J : (Nat → Nat → Int32)), m ≤ 3 → 3 + m ≤ d → f ≤ 1000 → z_N np J → z_CT zm_X9_triesOnce d [.ref 54, .int (nI (3 - m)), .int (nI f), .int g] SH (J, L, z_R b) 0 0 (z_ret none (z_tr np m f g J, L, z_R b))
  | 0, d, f, g, J, hm, hd, hf, h => c_X9_triesOnce d (by omega) b J L np hn10 h 3 (by omega) f hf g (fun _ _ K => K) (fun f g J q _ _ => absurd q (by omega)) (fun _ _ _ h => h)
  | m + 1, d, f, g, J, hm, hd, hf, h => c_X9_triesOnce d (by omega) b J L np hn10 h (3 - (m + 1)) (by omega) f hf g (z_tr np m) (fun f g J _ hf hJ => by
      have e : 3 - (m + 1) + 1 = 3 - m := by omega
      rw [e]
      exact c_tr b L hn10 m (d - 1) f g J (by omega) (by omega) hf hJ) (z_trN m)
theorem z_Nbg {np m : Nat} {I : (Nat → Nat → Int32)} (h : z_N np I) : z_N np (m_X9_begins I m) := (z_begO _ _ _ _ (by decide) (by decide) (by decide) (Or.inr (by decide))).trans h
theorem z_M3i {M : (Nat → Nat → Int32)} {k : Int32} (h : z_M3 M) (h1 : ¬ k < 0) (h2 : ¬ M 54 23 ≤ k) : k = nI k.toNatClampNeg ∧ k.toNatClampNeg < 3 := by
  obtain ⟨q, hq, e⟩ := h
  rw [e] at h2
  obtain ⟨a1, a2⟩ := z_inN (N := q) h1 h2 (by omega)
  exact ⟨a1, by omega⟩
def f_X9_atOnce (I : Nat → Nat → Int32) (np : Nat) (k : Int32) : Int32 := if (-1) ≤ k then if 0 ≤ k then if ((z_tr np 3 0 0 (z_up (m_X9_begins I np) 54 23 0)) 54 23) ≤ k then (-2) else ((z_tr np 3 0 0 (z_up (m_X9_begins I np) 54 23 0)) 66 k.toNatClampNeg) else ((z_tr np 3 0 0 (z_up (m_X9_begins I np) 54 23 0)) 54 23) else (-1)
def m_X9_atOnce (I : Nat → Nat → Int32) (np : Nat) (k : Int32) : Nat → Nat → Int32 := if (-1) ≤ k then if 0 ≤ k then if ((z_tr np 3 0 0 (z_up (m_X9_begins I np) 54 23 0)) 54 23) ≤ k then (z_tr np 3 0 0 (z_up (m_X9_begins I np) 54 23 0)) else (z_tr np 3 0 0 (z_up (m_X9_begins I np) 54 23 0)) else (z_tr np 3 0 0 (z_up (m_X9_begins I np) 54 23 0)) else I
set_option maxHeartbeats 1000000 in
set_option maxRecDepth 100000 in
theorem c_X9_atOnce (d : Nat) (hd : 7 ≤ d) (b : Bool) (I : Nat → Nat → Int32) (L : Nat → Nat → Int64) (np : Nat) (hn10 : np ≤ 10) (hN : z_N np I) (k : Int32) : z_CT zm_X9_atOnce d [.ref 54, .int k] SH (I, L, z_R b) 0 0 (z_ret (some (.int (f_X9_atOnce I np k))) ((m_X9_atOnce I np k), L, z_R b)) := by
  refine z_enter (by decide +kernel) (Nat.le_of_ble_eq_true rfl) ?_
  have hentry : PW zm_X9_atOnce d 0 [(0, .ref 54), (1, .int k)] [] SH (I, L, z_R b) 0 0 (z_ret (some (.int (f_X9_atOnce I np k))) ((m_X9_atOnce I np k), L, z_R b)) := by
    refine p_iload_n (z_dec zd_X9_atOnce 0 rfl) rfl 1 rfl (n := 1) rfl ?_
    refine p_iconst (z_dec zd_X9_atOnce 1 rfl) (v := (-1)) (by decide) (n := 2) rfl ?_
    refine p_icmp_ge (z_dec zd_X9_atOnce 2 rfl) (t := 7) (by decide) (n := 5) rfl (fun h2 => ?_) (fun h2 => ?_)
    · refine p_aload_n (z_dec zd_X9_atOnce 5 rfl) rfl 0 rfl (n := 8) rfl ?_
      refine q_callV (As := []) (rest := []) (z_dec zd_X9_atOnce 6 rfl) zk_X9_206 zv_X9_begins (c_X9_begins (d - 1) (by omega) b I L np hN hn10) rfl ⟨_, _, rfl⟩ rfl rfl (Nat.le_of_ble_eq_true rfl) (by omega) (n := 11) rfl ?_
      show PW zm_X9_atOnce d 11 [(0, .ref 54), (1, .int k)] [] SH ((m_X9_begins I np), L, z_R b) 0 0 _
      have hP11 : z_N np ((m_X9_begins I np)) := z_Nbg hN
      refine p_aload_n (z_dec zd_X9_atOnce 7 rfl) rfl 0 rfl (n := 12) rfl ?_
      refine p_iconst (z_dec zd_X9_atOnce 8 rfl) (v := 0) (by decide) (n := 13) rfl ?_
      refine q_putI (z_dec zd_X9_atOnce 9 rfl) zp_X9_244 (fun q => by cases q) rfl (n := 16) rfl ?_
      have hP16 : z_N np ((z_up (m_X9_begins I np) 54 23 0)) := z_Nu2 hP11 (by decide) _
      refine p_aload_n (z_dec zd_X9_atOnce 10 rfl) rfl 0 rfl (n := 17) rfl ?_
      refine p_iconst (z_dec zd_X9_atOnce 11 rfl) (v := 0) (by decide) (n := 18) rfl ?_
      refine p_iconst (z_dec zd_X9_atOnce 12 rfl) (v := 0) (by decide) (n := 19) rfl ?_
      refine p_iconst (z_dec zd_X9_atOnce 13 rfl) (v := 0) (by decide) (n := 20) rfl ?_
      refine q_callV (As := [.int (nI (3 - 3)), .int (nI 0), .int 0]) (rest := []) (z_dec zd_X9_atOnce 14 rfl) zk_X9_247 zv_X9_triesOnce (c_tr b L hn10 3 (d - 1) 0 0 (z_up (m_X9_begins I np) 54 23 0) (by omega) (by omega) (by omega) hP16) rfl ⟨_, _, rfl⟩ rfl rfl (Nat.le_of_ble_eq_true rfl) (by omega) (n := 23) rfl ?_
      show PW zm_X9_atOnce d 23 [(0, .ref 54), (1, .int k)] [] SH ((z_tr np 3 0 0 (z_up (m_X9_begins I np) 54 23 0)), L, z_R b) 0 0 _
      have hm3 : z_M3 ((z_tr np 3 0 0 (z_up (m_X9_begins I np) 54 23 0))) := z_trM 3 0 0 _ ⟨0, by decide, z_up_s _ _ _ _⟩
      refine p_iload_n (z_dec zd_X9_atOnce 15 rfl) rfl 1 rfl (n := 24) rfl ?_
      refine p_if_ge (z_dec zd_X9_atOnce 16 rfl) (t := 34) (by decide) (n := 27) rfl (fun h24 => ?_) (fun h24 => ?_)
      · refine p_iload_n (z_dec zd_X9_atOnce 20 rfl) rfl 1 rfl (n := 35) rfl ?_
        refine p_aload_n (z_dec zd_X9_atOnce 21 rfl) rfl 0 rfl (n := 36) rfl ?_
        refine q_getI (z_dec zd_X9_atOnce 22 rfl) zf_X9_244 (by decide) rfl (v := ((z_tr np 3 0 0 (z_up (m_X9_begins I np) 54 23 0)) 54 23)) rfl (n := 39) rfl ?_
        refine p_icmp_ge (z_dec zd_X9_atOnce 23 rfl) (t := 51) (by decide) (n := 42) rfl (fun h39 => ?_) (fun h39 => ?_)
        · refine p_bipush (z_dec zd_X9_atOnce 29 rfl) (v := (-2)) (by decide) (n := 53) rfl ?_
          exact p_iret (z_dec zd_X9_atOnce 30 rfl) rfl ⟨(by unfold f_X9_atOnce; rw [if_pos h2, if_pos h24, if_pos h39]), rfl, (z_3 (by unfold m_X9_atOnce; rw [if_pos h2, if_pos h24, if_pos h39]) rfl)⟩
        · have hk := z_M3i hm3 (Int32.not_lt.mpr h24) h39
          refine p_aload_n (z_dec zd_X9_atOnce 24 rfl) rfl 0 rfl (n := 43) rfl ?_
          refine q_getR (z_dec zd_X9_atOnce 25 rfl) zf_X9_43 (i := 66) rfl rfl (n := 46) rfl ?_
          refine p_iload_n (z_dec zd_X9_atOnce 26 rfl) rfl 1 rfl (n := 47) rfl ?_
          refine q_iald (z_dec zd_X9_atOnce 27 rfl) rfl (by decide) (k.toNatClampNeg) hk.1 hk.2 (v := ((z_tr np 3 0 0 (z_up (m_X9_begins I np) 54 23 0)) 66 k.toNatClampNeg)) rfl (n := 48) rfl ?_
          refine p_goto (z_dec zd_X9_atOnce 28 rfl) (t := 53) (by decide) ?_
          exact p_iret (z_dec zd_X9_atOnce 30 rfl) rfl ⟨(by unfold f_X9_atOnce; rw [if_pos h2, if_pos h24, if_neg h39]), rfl, (z_3 (by unfold m_X9_atOnce; rw [if_pos h2, if_pos h24, if_neg h39]) rfl)⟩
      · refine p_aload_n (z_dec zd_X9_atOnce 17 rfl) rfl 0 rfl (n := 28) rfl ?_
        refine q_getI (z_dec zd_X9_atOnce 18 rfl) zf_X9_244 (by decide) rfl (v := ((z_tr np 3 0 0 (z_up (m_X9_begins I np) 54 23 0)) 54 23)) rfl (n := 31) rfl ?_
        refine p_goto (z_dec zd_X9_atOnce 19 rfl) (t := 53) (by decide) ?_
        exact p_iret (z_dec zd_X9_atOnce 30 rfl) rfl ⟨(by unfold f_X9_atOnce; rw [if_pos h2, if_neg h24]), rfl, (z_3 (by unfold m_X9_atOnce; rw [if_pos h2, if_neg h24]) rfl)⟩
    · refine p_iconst (z_dec zd_X9_atOnce 3 rfl) (v := (-1)) (by decide) (n := 6) rfl ?_
      exact p_iret (z_dec zd_X9_atOnce 4 rfl) rfl ⟨(by unfold f_X9_atOnce; rw [if_neg h2]), rfl, (z_3 (by unfold m_X9_atOnce; rw [if_neg h2]) rfl)⟩
  exact hentry
