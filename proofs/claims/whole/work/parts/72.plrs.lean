theorem z_pix {M i : Int32} {m t : Nat} (hM : M = nI m) (hm : m ≤ 60) (ht : t ≤ 10) (hi : ¬ i < 0) (h : ¬ M - 3 - 3 * nI t < i) : i = nI i.toNatClampNeg ∧ i.toNatClampNeg + 3 * t + 3 ≤ m := by
  subst hM
  obtain ⟨j, hj, rfl⟩ := nI_of hi
  rw [nI_clamp hj]
  refine ⟨rfl, ?_⟩
  rw [Int32.lt_iff_toInt_lt, nI_toInt hj] at h
  have e : (nI m - 3 - 3 * nI t).toInt = (m : Int) - 3 - 3 * t := by
    have e3 : (3 : Int32) * nI t = nI (3 * t) := pk_mul 3 t
    have e33 : (3 : Int32).toInt = 3 := rfl
    rw [e3, Int32.toInt_sub, Int32.toInt_sub, nI_toInt (n := m) (by omega), nI_toInt (n := 3 * t) (by omega), e33, Int.bmod_def, Int.bmod_def]
    omega
  rw [e] at h
  omega
/-- t players have come -/
def yq_pl (np t : Nat) (I J : Nat → Nat → Int32) : Prop := J 54 6 = nI (np + t) ∧ np + t ≤ 10 ∧ ∀ j, J 76 j = I 76 j
theorem yq_plA {np t : Nat} {I J : Nat → Nat → Int32} (h : yq_pl np t I J) (h1 : np + t < 10) (x y z : Int32) : yq_pl np (t + 1) I (m_X9_adds J (np + t) x y z) := by
  unfold m_X9_adds
  refine ⟨?_, by omega, fun j => ?_⟩
  · rw [z_up_s, nI_1]; rfl
  · rw [z_up_k _ _ (by decide), z_up_k _ _ (by decide), z_up_k _ _ (by decide), z_up_k _ _ (by decide)]
    exact h.2.2 j
theorem z_with1 {x : Int32} {N : Nat} {hi : Int64} (hN : hi.toInt = N) (h : ¬ f_X9_within x.toInt64 1 hi = 0) : x = nI x.toNatClampNeg ∧ 1 ≤ x.toNatClampNeg ∧ x.toNatClampNeg ≤ N := z_wi1 hN h
def gx_X9_players_69 (L : Nat → Nat → Int64) (np : Nat) (sh : Int32) (i : Int32) : Nat → Nat → (Nat → Nat → Int32) → Int32 × (Nat → Nat → Int32)
  | 0, t69, Iv => ((nI t69), Iv)
  | r69 + 1, t69, Iv => if (((Iv 76 sh.toNatClampNeg) - 3) - (3 * (nI t69))) < i then ((nI t69), Iv) else if 10 ≤ (nI (np + t69)) then ((nI t69), Iv) else if (f_X9_mayCome (L 77 (((60 * sh.toNatClampNeg) + i.toNatClampNeg) + (3 * t69))) (L 77 ((((60 * sh.toNatClampNeg) + i.toNatClampNeg) + (3 * t69)) + 1)) (L 77 ((((60 * sh.toNatClampNeg) + i.toNatClampNeg) + (3 * t69)) + 2))) = 0 then ((nI t69), Iv) else gx_X9_players_69 L np sh i r69 (t69 + 1) (m_X9_adds Iv (np + t69) ((L 77 (((60 * sh.toNatClampNeg) + i.toNatClampNeg) + (3 * t69))).toInt32) ((L 77 ((((60 * sh.toNatClampNeg) + i.toNatClampNeg) + (3 * t69)) + 1)).toInt32) ((L 77 ((((60 * sh.toNatClampNeg) + i.toNatClampNeg) + (3 * t69)) + 2)).toInt32))
def f_X9_players (I : Nat → Nat → Int32) (L : Nat → Nat → Int64) (np : Nat) (sh : Int32) (i : Int32) (n : Int32) : Int32 := if (f_X9_isShelf sh) = 0 then (-1) else if (f_X9_within (n.toInt64) 1 10) = 0 then (-1) else if (I 75 sh.toNatClampNeg) < 0 then if (I 75 sh.toNatClampNeg) = 51 then if i < 0 then 0 else (gx_X9_players_69 L np sh i n.toNatClampNeg 0 I).1 else 0 else if (I 75 sh.toNatClampNeg) = 51 then if i < 0 then 0 else (gx_X9_players_69 L np sh i n.toNatClampNeg 0 I).1 else (-12)
def m_X9_players (I : Nat → Nat → Int32) (L : Nat → Nat → Int64) (np : Nat) (sh : Int32) (i : Int32) (n : Int32) : Nat → Nat → Int32 := if (f_X9_isShelf sh) = 0 then I else if (f_X9_within (n.toInt64) 1 10) = 0 then I else if (I 75 sh.toNatClampNeg) < 0 then if (I 75 sh.toNatClampNeg) = 51 then if i < 0 then I else (gx_X9_players_69 L np sh i n.toNatClampNeg 0 I).2 else I else if (I 75 sh.toNatClampNeg) = 51 then if i < 0 then I else (gx_X9_players_69 L np sh i n.toNatClampNeg 0 I).2 else I
set_option maxHeartbeats 1000000 in
set_option maxRecDepth 100000 in
theorem c_X9_players (d : Nat) (hd : 3 ≤ d) (b : Bool) (I : Nat → Nat → Int32) (L : Nat → Nat → Int64) (np : Nat) (hnp : I 54 6 = nI np) (hn10 : np ≤ 10) (sh : Int32) (i : Int32) (n : Int32) (hmn : ∀ j, j < 6 → I 76 j = nI (I 76 j).toNatClampNeg ∧ (I 76 j).toNatClampNeg ≤ 60) : z_CT zm_X9_players d [.ref 54, .int sh, .int i, .int n] SH (I, L, z_R b) 0 0 (z_ret (some (.int (f_X9_players I L np sh i n))) ((m_X9_players I L np sh i n), L, z_R b)) := by
  refine z_enter (by decide +kernel) (Nat.le_of_ble_eq_true rfl) ?_
  have hentry : PW zm_X9_players d 0 [(0, .ref 54), (1, .int sh), (2, .int i), (3, .int n)] [] SH (I, L, z_R b) 0 0 (z_ret (some (.int (f_X9_players I L np sh i n))) ((m_X9_players I L np sh i n), L, z_R b)) := by
    refine p_iload_n (z_dec zd_X9_players 0 rfl) rfl 1 rfl (n := 1) rfl ?_
    refine q_callS (As := [.int sh]) (rest := []) (z_dec zd_X9_players 1 rfl) zk_X9_113 zs_X9_isShelf (c_X9_isShelf (d - 1) (by omega) b I L sh) rfl rfl (Nat.le_of_ble_eq_true rfl) (by omega) (n := 4) rfl ?_
    show PW zm_X9_players d 4 [(0, .ref 54), (1, .int sh), (2, .int i), (3, .int n)] [.int (f_X9_isShelf sh)] SH (I, L, z_R b) 0 0 _
    refine p_if_eq (z_dec zd_X9_players 2 rfl) (t := 19) (by decide) (n := 7) rfl (fun h4 => ?_) (fun h4 => ?_)
    · refine p_iconst (z_dec zd_X9_players 9 rfl) (v := (-1)) (by decide) (n := 20) rfl ?_
      exact p_iret (z_dec zd_X9_players 10 rfl) rfl ⟨(by unfold f_X9_players; rw [if_pos h4]), rfl, (z_3 (by unfold m_X9_players; rw [if_pos h4]) rfl)⟩
    · have hj_sh := z_shf h4
      refine p_iload_n (z_dec zd_X9_players 3 rfl) rfl 3 rfl (n := 8) rfl ?_
      refine p_i2l (z_dec zd_X9_players 4 rfl) (n := 9) rfl ?_
      refine p_lconst (z_dec zd_X9_players 5 rfl) (v := 1) (by decide) (n := 10) rfl ?_
      refine p_ldc2 (z_dec zd_X9_players 6 rfl) zq_X9_117 (n := 13) rfl ?_
      refine q_callS (As := [.long (n.toInt64), .long 1, .long 10]) (rest := []) (z_dec zd_X9_players 7 rfl) zk_X9_96 zs_X9_within (c_X9_within (d - 1) (by omega) b I L (n.toInt64) 1 10) rfl rfl (Nat.le_of_ble_eq_true rfl) (by omega) (n := 16) rfl ?_
      show PW zm_X9_players d 16 [(0, .ref 54), (1, .int sh), (2, .int i), (3, .int n)] [.int (f_X9_within (n.toInt64) 1 10)] SH (I, L, z_R b) 0 0 _
      refine p_if_ne (z_dec zd_X9_players 8 rfl) (t := 21) (by decide) (n := 19) rfl (fun h16 => ?_) (fun h16 => ?_)
      · have hn := z_with1 (N := 10) rfl h16
        refine p_aload_n (z_dec zd_X9_players 11 rfl) rfl 0 rfl (n := 22) rfl ?_
        refine q_getR (z_dec zd_X9_players 12 rfl) zf_X9_70 (i := 75) rfl rfl (n := 25) rfl ?_
        refine p_iload_n (z_dec zd_X9_players 13 rfl) rfl 1 rfl (n := 26) rfl ?_
        refine q_iald (z_dec zd_X9_players 14 rfl) rfl (by decide) (sh.toNatClampNeg) hj_sh.1 (by omega) (v := (I 75 sh.toNatClampNeg)) rfl (n := 27) rfl ?_
        refine p_if_lt (z_dec zd_X9_players 15 rfl) (t := 44) (by decide) (n := 30) rfl (fun h27 => ?_) (fun h27 => ?_)
        · refine p_iconst (z_dec zd_X9_players 24 rfl) (v := 0) (by decide) (n := 45) rfl ?_
          refine p_istore (z_dec zd_X9_players 25 rfl) (lv2 := [(4, .int 0), (0, .ref 54), (1, .int sh), (2, .int i), (3, .int n)]) (by decide) rfl (n := 47) rfl ?_
          refine p_aload_n (z_dec zd_X9_players 26 rfl) rfl 1 rfl (n := 48) rfl ?_
          refine q_getR (z_dec zd_X9_players 27 rfl) zf_X9_70 (i := 75) rfl rfl (n := 51) rfl ?_
          refine p_iload_n (z_dec zd_X9_players 28 rfl) rfl 2 rfl (n := 52) rfl ?_
          refine q_iald (z_dec zd_X9_players 29 rfl) rfl (by decide) (sh.toNatClampNeg) hj_sh.1 (by omega) (v := (I 75 sh.toNatClampNeg)) rfl (n := 53) rfl ?_
          refine p_bipush (z_dec zd_X9_players 30 rfl) (v := 51) (by decide) (n := 55) rfl ?_
          refine p_icmp_ne (z_dec zd_X9_players 31 rfl) (t := 66) (by decide) (n := 58) rfl (fun h55 => ?_) (fun h55 => ?_)
          · refine p_iconst (z_dec zd_X9_players 36 rfl) (v := 0) (by decide) (n := 67) rfl ?_
            refine p_istore (z_dec zd_X9_players 37 rfl) (lv2 := [(5, .int 0), (4, .int 0), (0, .ref 54), (1, .int sh), (2, .int i), (3, .int n)]) (by decide) rfl (n := 69) rfl ?_
            refine p_iload (z_dec zd_X9_players 38 rfl) 0 rfl (n := 71) rfl ?_
            refine p_if_eq (z_dec zd_X9_players 39 rfl) (t := 212) (by decide) (n := 74) rfl (fun h71 => ?_) (fun h71 => ?_)
            · refine p_iload (z_dec zd_X9_players 122 rfl) 1 rfl (n := 214) rfl ?_
              exact p_iret (z_dec zd_X9_players 123 rfl) rfl ⟨(by unfold f_X9_players; rw [if_neg h4, if_neg h16, if_pos h27, if_neg h55]), rfl, (z_3 (by unfold m_X9_players; rw [if_neg h4, if_neg h16, if_pos h27, if_neg h55]) rfl)⟩
            · exact absurd h71 (by decide)
          · refine p_iload_n (z_dec zd_X9_players 32 rfl) rfl 3 rfl (n := 59) rfl ?_
            refine p_if_lt (z_dec zd_X9_players 33 rfl) (t := 66) (by decide) (n := 62) rfl (fun h59 => ?_) (fun h59 => ?_)
            · refine p_iconst (z_dec zd_X9_players 36 rfl) (v := 0) (by decide) (n := 67) rfl ?_
              refine p_istore (z_dec zd_X9_players 37 rfl) (lv2 := [(5, .int 0), (4, .int 0), (0, .ref 54), (1, .int sh), (2, .int i), (3, .int n)]) (by decide) rfl (n := 69) rfl ?_
              refine p_iload (z_dec zd_X9_players 38 rfl) 0 rfl (n := 71) rfl ?_
              refine p_if_eq (z_dec zd_X9_players 39 rfl) (t := 212) (by decide) (n := 74) rfl (fun h71 => ?_) (fun h71 => ?_)
              · refine p_iload (z_dec zd_X9_players 122 rfl) 1 rfl (n := 214) rfl ?_
                exact p_iret (z_dec zd_X9_players 123 rfl) rfl ⟨(by unfold f_X9_players; rw [if_neg h4, if_neg h16, if_pos h27, if_pos h55, if_pos h59]), rfl, (z_3 (by unfold m_X9_players; rw [if_neg h4, if_neg h16, if_pos h27, if_pos h55, if_pos h59]) rfl)⟩
              · exact absurd h71 (by decide)
            · refine p_iconst (z_dec zd_X9_players 34 rfl) (v := 1) (by decide) (n := 63) rfl ?_
              refine p_goto (z_dec zd_X9_players 35 rfl) (t := 67) (by decide) ?_
              refine p_istore (z_dec zd_X9_players 37 rfl) (lv2 := [(5, .int 1), (4, .int 0), (0, .ref 54), (1, .int sh), (2, .int i), (3, .int n)]) (by decide) rfl (n := 69) rfl ?_
              have hL69 : ∀ (r69 t69 : Nat) (Iv : Nat → Nat → Int32), t69 + r69 = n.toNatClampNeg → yq_pl np t69 I Iv → PW zm_X9_players d 69 [(5, .int 1), (4, .int (nI t69)), (0, .ref 54), (1, .int sh), (2, .int i), (3, .int n)] [] SH (Iv, L, z_R b) 0 0 (z_ret (some (.int (gx_X9_players_69 L np sh i r69 t69 Iv).1)) ((gx_X9_players_69 L np sh i r69 t69 Iv).2, L, z_R b)) := by
                intro r69
                induction r69 with
                | zero =>
                  intro t69 Iv ht69 hlo
                  refine p_iload (z_dec zd_X9_players 38 rfl) 0 rfl (n := 71) rfl ?_
                  refine p_if_eq (z_dec zd_X9_players 39 rfl) (t := 212) (by decide) (n := 74) rfl (fun h71 => ?_) (fun h71 => ?_)
                  · exact absurd h71 (by decide)
                  · refine p_iload (z_dec zd_X9_players 40 rfl) 1 rfl (n := 76) rfl ?_
                    refine p_iload_n (z_dec zd_X9_players 41 rfl) rfl 5 rfl (n := 77) rfl ?_
                    refine p_icmp_ge (z_dec zd_X9_players 42 rfl) (t := 212) (by decide) (n := 80) rfl (fun h77 => ?_) (fun h77 => ?_)
                    · refine p_iload (z_dec zd_X9_players 122 rfl) 1 rfl (n := 214) rfl ?_
                      exact p_iret (z_dec zd_X9_players 123 rfl) rfl ⟨rfl, rfl, (z_3 rfl rfl)⟩
                    · exact absurd ((by have := z_nge (a := n.toNatClampNeg) (b := t69) (by rw [← hn.1]; exact h77); exact this)) (by omega)
                | succ r69 ih69 =>
                  intro t69 Iv ht69 hlo
                  refine p_iload (z_dec zd_X9_players 38 rfl) 0 rfl (n := 71) rfl ?_
                  refine p_if_eq (z_dec zd_X9_players 39 rfl) (t := 212) (by decide) (n := 74) rfl (fun h71 => ?_) (fun h71 => ?_)
                  · exact absurd h71 (by decide)
                  · refine p_iload (z_dec zd_X9_players 40 rfl) 1 rfl (n := 76) rfl ?_
                    refine p_iload_n (z_dec zd_X9_players 41 rfl) rfl 5 rfl (n := 77) rfl ?_
                    refine p_icmp_ge (z_dec zd_X9_players 42 rfl) (t := 212) (by decide) (n := 80) rfl (fun h77 => ?_) (fun h77 => ?_)
                    · exact absurd ((by have := z_ge (a := n.toNatClampNeg) (b := t69) (by rw [← hn.1]; exact h77); exact this)) (by omega)
                    · have hx69 : t69 < n.toNatClampNeg := by omega
                      refine p_iload_n (z_dec zd_X9_players 43 rfl) rfl 4 rfl (n := 81) rfl ?_
                      refine p_aload_n (z_dec zd_X9_players 44 rfl) rfl 2 rfl (n := 82) rfl ?_
                      refine q_getR (z_dec zd_X9_players 45 rfl) zf_X9_73 (i := 76) rfl rfl (n := 85) rfl ?_
                      refine p_iload_n (z_dec zd_X9_players 46 rfl) rfl 3 rfl (n := 86) rfl ?_
                      refine q_iald (z_dec zd_X9_players 47 rfl) rfl (by decide) (sh.toNatClampNeg) hj_sh.1 (by omega) (v := (Iv 76 sh.toNatClampNeg)) rfl (n := 87) rfl ?_
                      refine p_iconst (z_dec zd_X9_players 48 rfl) (v := 3) (by decide) (n := 88) rfl ?_
                      refine p_isub (z_dec zd_X9_players 49 rfl) (n := 89) rfl ?_
                      refine p_iconst (z_dec zd_X9_players 50 rfl) (v := 3) (by decide) (n := 90) rfl ?_
                      refine p_iload (z_dec zd_X9_players 51 rfl) 1 rfl (n := 92) rfl ?_
                      refine p_imul (z_dec zd_X9_players 52 rfl) (n := 93) rfl ?_
                      refine p_isub (z_dec zd_X9_players 53 rfl) (n := 94) rfl ?_
                      refine p_icmp_gt (z_dec zd_X9_players 54 rfl) (t := 110) (by decide) (n := 97) rfl (fun h94 => ?_) (fun h94 => ?_)
                      · refine p_iconst (z_dec zd_X9_players 61 rfl) (v := 0) (by decide) (n := 111) rfl ?_
                        refine p_istore (z_dec zd_X9_players 62 rfl) (lv2 := [(5, .int 0), (4, .int (nI t69)), (0, .ref 54), (1, .int sh), (2, .int i), (3, .int n)]) (by decide) rfl (n := 113) rfl ?_
                        refine p_bipush (z_dec zd_X9_players 63 rfl) (v := 60) (by decide) (n := 115) rfl ?_
                        refine p_iload_n (z_dec zd_X9_players 64 rfl) rfl 3 rfl (n := 116) rfl ?_
                        refine p_imul (z_dec zd_X9_players 65 rfl) (n := 117) rfl ?_
                        refine p_iload_n (z_dec zd_X9_players 66 rfl) rfl 4 rfl (n := 118) rfl ?_
                        refine p_iadd (z_dec zd_X9_players 67 rfl) (n := 119) rfl ?_
                        refine p_iconst (z_dec zd_X9_players 68 rfl) (v := 3) (by decide) (n := 120) rfl ?_
                        refine p_iload (z_dec zd_X9_players 69 rfl) 1 rfl (n := 122) rfl ?_
                        refine p_imul (z_dec zd_X9_players 70 rfl) (n := 123) rfl ?_
                        refine p_iadd (z_dec zd_X9_players 71 rfl) (n := 124) rfl ?_
                        refine p_istore (z_dec zd_X9_players 72 rfl) (lv2 := [(6, .int (((60 * sh) + i) + (3 * (nI t69)))), (5, .int 0), (4, .int (nI t69)), (0, .ref 54), (1, .int sh), (2, .int i), (3, .int n)]) (by decide) rfl (n := 126) rfl ?_
                        refine p_iload (z_dec zd_X9_players 73 rfl) 1 rfl (n := 128) rfl ?_
                        refine p_if_eq (z_dec zd_X9_players 74 rfl) (t := 166) (by decide) (n := 131) rfl (fun h128 => ?_) (fun h128 => ?_)
                        · refine p_iconst (z_dec zd_X9_players 95 rfl) (v := 0) (by decide) (n := 167) rfl ?_
                          refine p_istore (z_dec zd_X9_players 96 rfl) (lv2 := [(5, .int 0), (6, .int (((60 * sh) + i) + (3 * (nI t69)))), (4, .int (nI t69)), (0, .ref 54), (1, .int sh), (2, .int i), (3, .int n)]) (by decide) rfl (n := 169) rfl ?_
                          refine p_iload (z_dec zd_X9_players 97 rfl) 0 rfl (n := 171) rfl ?_
                          refine p_if_eq (z_dec zd_X9_players 98 rfl) (t := 209) (by decide) (n := 174) rfl (fun h171 => ?_) (fun h171 => ?_)
                          · refine p_goto (z_dec zd_X9_players 121 rfl) (t := 69) (by decide) ?_
                            refine p_iload (z_dec zd_X9_players 38 rfl) 0 rfl (n := 71) rfl ?_
                            refine p_if_eq (z_dec zd_X9_players 39 rfl) (t := 212) (by decide) (n := 74) rfl (fun h71 => ?_) (fun h71 => ?_)
                            · refine p_iload (z_dec zd_X9_players 122 rfl) 2 rfl (n := 214) rfl ?_
                              exact p_iret (z_dec zd_X9_players 123 rfl) rfl ⟨(by (conv => rhs; unfold gx_X9_players_69); rw [if_pos h94]), rfl, (z_3 (by (conv => rhs; unfold gx_X9_players_69); rw [if_pos h94]) rfl)⟩
                            · exact absurd h71 (by decide)
                          · exact absurd h171 (by decide)
                        · exact absurd h128 (by decide)
                      · have hq := z_pix ((hlo.2.2 _).trans (hmn _ hj_sh.2).1) (hmn _ hj_sh.2).2 (by omega) h59 h94
                        have hq2 := (hmn _ hj_sh.2).2
                        refine p_aload_n (z_dec zd_X9_players 55 rfl) rfl 2 rfl (n := 98) rfl ?_
                        refine q_getI (z_dec zd_X9_players 56 rfl) zf_X9_93 (by decide) rfl (v := (nI (np + t69))) hlo.1 (n := 101) rfl ?_
                        refine p_bipush (z_dec zd_X9_players 57 rfl) (v := 10) (by decide) (n := 103) rfl ?_
                        refine p_icmp_ge (z_dec zd_X9_players 58 rfl) (t := 110) (by decide) (n := 106) rfl (fun h103 => ?_) (fun h103 => ?_)
                        · refine p_iconst (z_dec zd_X9_players 61 rfl) (v := 0) (by decide) (n := 111) rfl ?_
                          refine p_istore (z_dec zd_X9_players 62 rfl) (lv2 := [(5, .int 0), (4, .int (nI t69)), (0, .ref 54), (1, .int sh), (2, .int i), (3, .int n)]) (by decide) rfl (n := 113) rfl ?_
                          refine p_bipush (z_dec zd_X9_players 63 rfl) (v := 60) (by decide) (n := 115) rfl ?_
                          refine p_iload_n (z_dec zd_X9_players 64 rfl) rfl 3 rfl (n := 116) rfl ?_
                          refine p_imul (z_dec zd_X9_players 65 rfl) (n := 117) rfl ?_
                          refine p_iload_n (z_dec zd_X9_players 66 rfl) rfl 4 rfl (n := 118) rfl ?_
                          refine p_iadd (z_dec zd_X9_players 67 rfl) (n := 119) rfl ?_
                          refine p_iconst (z_dec zd_X9_players 68 rfl) (v := 3) (by decide) (n := 120) rfl ?_
                          refine p_iload (z_dec zd_X9_players 69 rfl) 1 rfl (n := 122) rfl ?_
                          refine p_imul (z_dec zd_X9_players 70 rfl) (n := 123) rfl ?_
                          refine p_iadd (z_dec zd_X9_players 71 rfl) (n := 124) rfl ?_
                          refine p_istore (z_dec zd_X9_players 72 rfl) (lv2 := [(6, .int (((60 * sh) + i) + (3 * (nI t69)))), (5, .int 0), (4, .int (nI t69)), (0, .ref 54), (1, .int sh), (2, .int i), (3, .int n)]) (by decide) rfl (n := 126) rfl ?_
                          refine p_iload (z_dec zd_X9_players 73 rfl) 1 rfl (n := 128) rfl ?_
                          refine p_if_eq (z_dec zd_X9_players 74 rfl) (t := 166) (by decide) (n := 131) rfl (fun h128 => ?_) (fun h128 => ?_)
                          · refine p_iconst (z_dec zd_X9_players 95 rfl) (v := 0) (by decide) (n := 167) rfl ?_
                            refine p_istore (z_dec zd_X9_players 96 rfl) (lv2 := [(5, .int 0), (6, .int (((60 * sh) + i) + (3 * (nI t69)))), (4, .int (nI t69)), (0, .ref 54), (1, .int sh), (2, .int i), (3, .int n)]) (by decide) rfl (n := 169) rfl ?_
                            refine p_iload (z_dec zd_X9_players 97 rfl) 0 rfl (n := 171) rfl ?_
                            refine p_if_eq (z_dec zd_X9_players 98 rfl) (t := 209) (by decide) (n := 174) rfl (fun h171 => ?_) (fun h171 => ?_)
                            · refine p_goto (z_dec zd_X9_players 121 rfl) (t := 69) (by decide) ?_
                              refine p_iload (z_dec zd_X9_players 38 rfl) 0 rfl (n := 71) rfl ?_
                              refine p_if_eq (z_dec zd_X9_players 39 rfl) (t := 212) (by decide) (n := 74) rfl (fun h71 => ?_) (fun h71 => ?_)
                              · refine p_iload (z_dec zd_X9_players 122 rfl) 2 rfl (n := 214) rfl ?_
                                exact p_iret (z_dec zd_X9_players 123 rfl) rfl ⟨(by (conv => rhs; unfold gx_X9_players_69); rw [if_neg h94, if_pos h103]), rfl, (z_3 (by (conv => rhs; unfold gx_X9_players_69); rw [if_neg h94, if_pos h103]) rfl)⟩
                              · exact absurd h71 (by decide)
                            · exact absurd h171 (by decide)
                          · exact absurd h128 (by decide)
                        · have hnl := z_nge (a := 10) h103
                          refine p_iconst (z_dec zd_X9_players 59 rfl) (v := 1) (by decide) (n := 107) rfl ?_
                          refine p_goto (z_dec zd_X9_players 60 rfl) (t := 111) (by decide) ?_
                          refine p_istore (z_dec zd_X9_players 62 rfl) (lv2 := [(5, .int 1), (4, .int (nI t69)), (0, .ref 54), (1, .int sh), (2, .int i), (3, .int n)]) (by decide) rfl (n := 113) rfl ?_
                          refine p_bipush (z_dec zd_X9_players 63 rfl) (v := 60) (by decide) (n := 115) rfl ?_
                          refine p_iload_n (z_dec zd_X9_players 64 rfl) rfl 3 rfl (n := 116) rfl ?_
                          refine p_imul (z_dec zd_X9_players 65 rfl) (n := 117) rfl ?_
                          refine p_iload_n (z_dec zd_X9_players 66 rfl) rfl 4 rfl (n := 118) rfl ?_
                          refine p_iadd (z_dec zd_X9_players 67 rfl) (n := 119) rfl ?_
                          refine p_iconst (z_dec zd_X9_players 68 rfl) (v := 3) (by decide) (n := 120) rfl ?_
                          refine p_iload (z_dec zd_X9_players 69 rfl) 1 rfl (n := 122) rfl ?_
                          refine p_imul (z_dec zd_X9_players 70 rfl) (n := 123) rfl ?_
                          refine p_iadd (z_dec zd_X9_players 71 rfl) (n := 124) rfl ?_
                          refine p_istore (z_dec zd_X9_players 72 rfl) (lv2 := [(6, .int (((60 * sh) + i) + (3 * (nI t69)))), (5, .int 1), (4, .int (nI t69)), (0, .ref 54), (1, .int sh), (2, .int i), (3, .int n)]) (by decide) rfl (n := 126) rfl ?_
                          refine p_iload (z_dec zd_X9_players 73 rfl) 1 rfl (n := 128) rfl ?_
                          refine p_if_eq (z_dec zd_X9_players 74 rfl) (t := 166) (by decide) (n := 131) rfl (fun h128 => ?_) (fun h128 => ?_)
                          · exact absurd h128 (by decide)
                          · refine p_aload_n (z_dec zd_X9_players 75 rfl) rfl 3 rfl (n := 132) rfl ?_
                            refine q_getR (z_dec zd_X9_players 76 rfl) zf_X9_76 (i := 77) rfl rfl (n := 135) rfl ?_
                            refine p_iload (z_dec zd_X9_players 77 rfl) 0 rfl (n := 137) rfl ?_
                            refine q_lald (z_dec zd_X9_players 78 rfl) rfl (by decide) (((60 * sh.toNatClampNeg) + i.toNatClampNeg) + (3 * t69)) (z_addE (z_addE (z_mulE rfl hj_sh.1) hq.1) (z_mulE rfl rfl)) (by omega) (v := (L 77 (((60 * sh.toNatClampNeg) + i.toNatClampNeg) + (3 * t69)))) rfl (n := 138) rfl ?_
                            refine p_aload_n (z_dec zd_X9_players 79 rfl) rfl 3 rfl (n := 139) rfl ?_
                            refine q_getR (z_dec zd_X9_players 80 rfl) zf_X9_76 (i := 77) rfl rfl (n := 142) rfl ?_
                            refine p_iload (z_dec zd_X9_players 81 rfl) 0 rfl (n := 144) rfl ?_
                            refine p_iconst (z_dec zd_X9_players 82 rfl) (v := 1) (by decide) (n := 145) rfl ?_
                            refine p_iadd (z_dec zd_X9_players 83 rfl) (n := 146) rfl ?_
                            refine q_lald (z_dec zd_X9_players 84 rfl) rfl (by decide) ((((60 * sh.toNatClampNeg) + i.toNatClampNeg) + (3 * t69)) + 1) (z_addE (z_addE (z_addE (z_mulE rfl hj_sh.1) hq.1) (z_mulE rfl rfl)) rfl) (by omega) (v := (L 77 ((((60 * sh.toNatClampNeg) + i.toNatClampNeg) + (3 * t69)) + 1))) rfl (n := 147) rfl ?_
                            refine p_aload_n (z_dec zd_X9_players 85 rfl) rfl 3 rfl (n := 148) rfl ?_
                            refine q_getR (z_dec zd_X9_players 86 rfl) zf_X9_76 (i := 77) rfl rfl (n := 151) rfl ?_
                            refine p_iload (z_dec zd_X9_players 87 rfl) 0 rfl (n := 153) rfl ?_
                            refine p_iconst (z_dec zd_X9_players 88 rfl) (v := 2) (by decide) (n := 154) rfl ?_
                            refine p_iadd (z_dec zd_X9_players 89 rfl) (n := 155) rfl ?_
                            refine q_lald (z_dec zd_X9_players 90 rfl) rfl (by decide) ((((60 * sh.toNatClampNeg) + i.toNatClampNeg) + (3 * t69)) + 2) (z_addE (z_addE (z_addE (z_mulE rfl hj_sh.1) hq.1) (z_mulE rfl rfl)) rfl) (by omega) (v := (L 77 ((((60 * sh.toNatClampNeg) + i.toNatClampNeg) + (3 * t69)) + 2))) rfl (n := 156) rfl ?_
                            refine q_callS (As := [.long (L 77 (((60 * sh.toNatClampNeg) + i.toNatClampNeg) + (3 * t69))), .long (L 77 ((((60 * sh.toNatClampNeg) + i.toNatClampNeg) + (3 * t69)) + 1)), .long (L 77 ((((60 * sh.toNatClampNeg) + i.toNatClampNeg) + (3 * t69)) + 2))]) (rest := []) (z_dec zd_X9_players 91 rfl) zk_X9_106 zs_X9_mayCome (c_X9_mayCome (d - 1) (by omega) b Iv L (L 77 (((60 * sh.toNatClampNeg) + i.toNatClampNeg) + (3 * t69))) (L 77 ((((60 * sh.toNatClampNeg) + i.toNatClampNeg) + (3 * t69)) + 1)) (L 77 ((((60 * sh.toNatClampNeg) + i.toNatClampNeg) + (3 * t69)) + 2))) rfl rfl (Nat.le_of_ble_eq_true rfl) (by omega) (n := 159) rfl ?_
                            show PW zm_X9_players d 159 [(6, .int (((60 * sh) + i) + (3 * (nI t69)))), (5, .int 1), (4, .int (nI t69)), (0, .ref 54), (1, .int sh), (2, .int i), (3, .int n)] [.int (f_X9_mayCome (L 77 (((60 * sh.toNatClampNeg) + i.toNatClampNeg) + (3 * t69))) (L 77 ((((60 * sh.toNatClampNeg) + i.toNatClampNeg) + (3 * t69)) + 1)) (L 77 ((((60 * sh.toNatClampNeg) + i.toNatClampNeg) + (3 * t69)) + 2)))] SH (Iv, L, z_R b) 0 0 _
                            refine p_if_eq (z_dec zd_X9_players 92 rfl) (t := 166) (by decide) (n := 162) rfl (fun h159 => ?_) (fun h159 => ?_)
                            · refine p_iconst (z_dec zd_X9_players 95 rfl) (v := 0) (by decide) (n := 167) rfl ?_
                              refine p_istore (z_dec zd_X9_players 96 rfl) (lv2 := [(5, .int 0), (6, .int (((60 * sh) + i) + (3 * (nI t69)))), (4, .int (nI t69)), (0, .ref 54), (1, .int sh), (2, .int i), (3, .int n)]) (by decide) rfl (n := 169) rfl ?_
                              refine p_iload (z_dec zd_X9_players 97 rfl) 0 rfl (n := 171) rfl ?_
                              refine p_if_eq (z_dec zd_X9_players 98 rfl) (t := 209) (by decide) (n := 174) rfl (fun h171 => ?_) (fun h171 => ?_)
                              · refine p_goto (z_dec zd_X9_players 121 rfl) (t := 69) (by decide) ?_
                                refine p_iload (z_dec zd_X9_players 38 rfl) 0 rfl (n := 71) rfl ?_
                                refine p_if_eq (z_dec zd_X9_players 39 rfl) (t := 212) (by decide) (n := 74) rfl (fun h71 => ?_) (fun h71 => ?_)
                                · refine p_iload (z_dec zd_X9_players 122 rfl) 2 rfl (n := 214) rfl ?_
                                  exact p_iret (z_dec zd_X9_players 123 rfl) rfl ⟨(by (conv => rhs; unfold gx_X9_players_69); rw [if_neg h94, if_neg h103, if_pos h159]), rfl, (z_3 (by (conv => rhs; unfold gx_X9_players_69); rw [if_neg h94, if_neg h103, if_pos h159]) rfl)⟩
                                · exact absurd h71 (by decide)
                              · exact absurd h171 (by decide)
                            · refine p_iconst (z_dec zd_X9_players 93 rfl) (v := 1) (by decide) (n := 163) rfl ?_
                              refine p_goto (z_dec zd_X9_players 94 rfl) (t := 167) (by decide) ?_
                              refine p_istore (z_dec zd_X9_players 96 rfl) (lv2 := [(5, .int 1), (6, .int (((60 * sh) + i) + (3 * (nI t69)))), (4, .int (nI t69)), (0, .ref 54), (1, .int sh), (2, .int i), (3, .int n)]) (by decide) rfl (n := 169) rfl ?_
                              refine p_iload (z_dec zd_X9_players 97 rfl) 0 rfl (n := 171) rfl ?_
                              refine p_if_eq (z_dec zd_X9_players 98 rfl) (t := 209) (by decide) (n := 174) rfl (fun h171 => ?_) (fun h171 => ?_)
                              · exact absurd h171 (by decide)
                              · refine p_aload_n (z_dec zd_X9_players 99 rfl) rfl 3 rfl (n := 175) rfl ?_
                                refine p_aload_n (z_dec zd_X9_players 100 rfl) rfl 3 rfl (n := 176) rfl ?_
                                refine q_getR (z_dec zd_X9_players 101 rfl) zf_X9_76 (i := 77) rfl rfl (n := 179) rfl ?_
                                refine p_iload (z_dec zd_X9_players 102 rfl) 1 rfl (n := 181) rfl ?_
                                refine q_lald (z_dec zd_X9_players 103 rfl) rfl (by decide) (((60 * sh.toNatClampNeg) + i.toNatClampNeg) + (3 * t69)) (z_addE (z_addE (z_mulE rfl hj_sh.1) hq.1) (z_mulE rfl rfl)) (by omega) (v := (L 77 (((60 * sh.toNatClampNeg) + i.toNatClampNeg) + (3 * t69)))) rfl (n := 182) rfl ?_
                                refine p_l2i (z_dec zd_X9_players 104 rfl) (n := 183) rfl ?_
                                refine p_aload_n (z_dec zd_X9_players 105 rfl) rfl 3 rfl (n := 184) rfl ?_
                                refine q_getR (z_dec zd_X9_players 106 rfl) zf_X9_76 (i := 77) rfl rfl (n := 187) rfl ?_
                                refine p_iload (z_dec zd_X9_players 107 rfl) 1 rfl (n := 189) rfl ?_
                                refine p_iconst (z_dec zd_X9_players 108 rfl) (v := 1) (by decide) (n := 190) rfl ?_
                                refine p_iadd (z_dec zd_X9_players 109 rfl) (n := 191) rfl ?_
                                refine q_lald (z_dec zd_X9_players 110 rfl) rfl (by decide) ((((60 * sh.toNatClampNeg) + i.toNatClampNeg) + (3 * t69)) + 1) (z_addE (z_addE (z_addE (z_mulE rfl hj_sh.1) hq.1) (z_mulE rfl rfl)) rfl) (by omega) (v := (L 77 ((((60 * sh.toNatClampNeg) + i.toNatClampNeg) + (3 * t69)) + 1))) rfl (n := 192) rfl ?_
                                refine p_l2i (z_dec zd_X9_players 111 rfl) (n := 193) rfl ?_
                                refine p_aload_n (z_dec zd_X9_players 112 rfl) rfl 3 rfl (n := 194) rfl ?_
                                refine q_getR (z_dec zd_X9_players 113 rfl) zf_X9_76 (i := 77) rfl rfl (n := 197) rfl ?_
                                refine p_iload (z_dec zd_X9_players 114 rfl) 1 rfl (n := 199) rfl ?_
                                refine p_iconst (z_dec zd_X9_players 115 rfl) (v := 2) (by decide) (n := 200) rfl ?_
                                refine p_iadd (z_dec zd_X9_players 116 rfl) (n := 201) rfl ?_
                                refine q_lald (z_dec zd_X9_players 117 rfl) rfl (by decide) ((((60 * sh.toNatClampNeg) + i.toNatClampNeg) + (3 * t69)) + 2) (z_addE (z_addE (z_addE (z_mulE rfl hj_sh.1) hq.1) (z_mulE rfl rfl)) rfl) (by omega) (v := (L 77 ((((60 * sh.toNatClampNeg) + i.toNatClampNeg) + (3 * t69)) + 2))) rfl (n := 202) rfl ?_
                                refine p_l2i (z_dec zd_X9_players 118 rfl) (n := 203) rfl ?_
                                refine q_callV (As := [.int ((L 77 (((60 * sh.toNatClampNeg) + i.toNatClampNeg) + (3 * t69))).toInt32), .int ((L 77 ((((60 * sh.toNatClampNeg) + i.toNatClampNeg) + (3 * t69)) + 1)).toInt32), .int ((L 77 ((((60 * sh.toNatClampNeg) + i.toNatClampNeg) + (3 * t69)) + 2)).toInt32)]) (rest := []) (z_dec zd_X9_players 119 rfl) zk_X9_109 zv_X9_adds (c_X9_adds (d - 1) (by omega) b Iv L (np + t69) hlo.1 hlo.2.1 ((L 77 (((60 * sh.toNatClampNeg) + i.toNatClampNeg) + (3 * t69))).toInt32) ((L 77 ((((60 * sh.toNatClampNeg) + i.toNatClampNeg) + (3 * t69)) + 1)).toInt32) ((L 77 ((((60 * sh.toNatClampNeg) + i.toNatClampNeg) + (3 * t69)) + 2)).toInt32) hnl) rfl ⟨_, _, rfl⟩ rfl rfl (Nat.le_of_ble_eq_true rfl) (by omega) (n := 206) rfl ?_
                                show PW zm_X9_players d 206 [(5, .int 1), (6, .int (((60 * sh) + i) + (3 * (nI t69)))), (4, .int (nI t69)), (0, .ref 54), (1, .int sh), (2, .int i), (3, .int n)] [] SH ((m_X9_adds Iv (np + t69) ((L 77 (((60 * sh.toNatClampNeg) + i.toNatClampNeg) + (3 * t69))).toInt32) ((L 77 ((((60 * sh.toNatClampNeg) + i.toNatClampNeg) + (3 * t69)) + 1)).toInt32) ((L 77 ((((60 * sh.toNatClampNeg) + i.toNatClampNeg) + (3 * t69)) + 2)).toInt32)), L, z_R b) 0 0 _
                                refine p_iinc (z_dec zd_X9_players 120 rfl) 2 rfl (v := (nI (t69 + 1))) (nI_1 _) (lv2 := [(4, .int (nI (t69 + 1))), (5, .int 1), (6, .int (((60 * sh) + i) + (3 * (nI t69)))), (0, .ref 54), (1, .int sh), (2, .int i), (3, .int n)]) (by decide) rfl (n := 209) rfl ?_
                                refine p_goto (z_dec zd_X9_players 121 rfl) (t := 69) (by decide) ?_
                                refine z_sub (lv' := [(5, .int 1), (4, .int (nI (t69 + 1))), (0, .ref 54), (1, .int sh), (2, .int i), (3, .int n)]) [1, 0, 3, 4, 5, 6] rfl ?_
                                rw [show gx_X9_players_69 L np sh i (r69 + 1) t69 Iv = gx_X9_players_69 L np sh i r69 (t69 + 1) (m_X9_adds Iv (np + t69) ((L 77 (((60 * sh.toNatClampNeg) + i.toNatClampNeg) + (3 * t69))).toInt32) ((L 77 ((((60 * sh.toNatClampNeg) + i.toNatClampNeg) + (3 * t69)) + 1)).toInt32) ((L 77 ((((60 * sh.toNatClampNeg) + i.toNatClampNeg) + (3 * t69)) + 2)).toInt32)) from by (conv => lhs; unfold gx_X9_players_69); rw [if_neg h94, if_neg h103, if_neg h159]]
                                exact ih69 (t69 + 1) (m_X9_adds Iv (np + t69) ((L 77 (((60 * sh.toNatClampNeg) + i.toNatClampNeg) + (3 * t69))).toInt32) ((L 77 ((((60 * sh.toNatClampNeg) + i.toNatClampNeg) + (3 * t69)) + 1)).toInt32) ((L 77 ((((60 * sh.toNatClampNeg) + i.toNatClampNeg) + (3 * t69)) + 2)).toInt32)) (by omega) (yq_plA hlo hnl _ _ _)
              exact (by have q := (hL69 n.toNatClampNeg 0 I (by omega) ⟨hnp, hn10, fun _ => rfl⟩); (rw [show f_X9_players I L np sh i n = _ from by unfold f_X9_players; rw [if_neg h4, if_neg h16, if_pos h27, if_pos h55, if_neg h59]]); (rw [show m_X9_players I L np sh i n = _ from by unfold m_X9_players; rw [if_neg h4, if_neg h16, if_pos h27, if_pos h55, if_neg h59]]); exact q)
        · refine p_aload_n (z_dec zd_X9_players 16 rfl) rfl 0 rfl (n := 31) rfl ?_
          refine q_getR (z_dec zd_X9_players 17 rfl) zf_X9_70 (i := 75) rfl rfl (n := 34) rfl ?_
          refine p_iload_n (z_dec zd_X9_players 18 rfl) rfl 1 rfl (n := 35) rfl ?_
          refine q_iald (z_dec zd_X9_players 19 rfl) rfl (by decide) (sh.toNatClampNeg) hj_sh.1 (by omega) (v := (I 75 sh.toNatClampNeg)) rfl (n := 36) rfl ?_
          refine p_bipush (z_dec zd_X9_players 20 rfl) (v := 51) (by decide) (n := 38) rfl ?_
          refine p_icmp_eq (z_dec zd_X9_players 21 rfl) (t := 44) (by decide) (n := 41) rfl (fun h38 => ?_) (fun h38 => ?_)
          · refine p_iconst (z_dec zd_X9_players 24 rfl) (v := 0) (by decide) (n := 45) rfl ?_
            refine p_istore (z_dec zd_X9_players 25 rfl) (lv2 := [(4, .int 0), (0, .ref 54), (1, .int sh), (2, .int i), (3, .int n)]) (by decide) rfl (n := 47) rfl ?_
            refine p_aload_n (z_dec zd_X9_players 26 rfl) rfl 1 rfl (n := 48) rfl ?_
            refine q_getR (z_dec zd_X9_players 27 rfl) zf_X9_70 (i := 75) rfl rfl (n := 51) rfl ?_
            refine p_iload_n (z_dec zd_X9_players 28 rfl) rfl 2 rfl (n := 52) rfl ?_
            refine q_iald (z_dec zd_X9_players 29 rfl) rfl (by decide) (sh.toNatClampNeg) hj_sh.1 (by omega) (v := (I 75 sh.toNatClampNeg)) rfl (n := 53) rfl ?_
            refine p_bipush (z_dec zd_X9_players 30 rfl) (v := 51) (by decide) (n := 55) rfl ?_
            refine p_icmp_ne (z_dec zd_X9_players 31 rfl) (t := 66) (by decide) (n := 58) rfl (fun h55 => ?_) (fun h55 => ?_)
            · exact absurd h38 h55
            · refine p_iload_n (z_dec zd_X9_players 32 rfl) rfl 3 rfl (n := 59) rfl ?_
              refine p_if_lt (z_dec zd_X9_players 33 rfl) (t := 66) (by decide) (n := 62) rfl (fun h59 => ?_) (fun h59 => ?_)
              · refine p_iconst (z_dec zd_X9_players 36 rfl) (v := 0) (by decide) (n := 67) rfl ?_
                refine p_istore (z_dec zd_X9_players 37 rfl) (lv2 := [(5, .int 0), (4, .int 0), (0, .ref 54), (1, .int sh), (2, .int i), (3, .int n)]) (by decide) rfl (n := 69) rfl ?_
                refine p_iload (z_dec zd_X9_players 38 rfl) 0 rfl (n := 71) rfl ?_
                refine p_if_eq (z_dec zd_X9_players 39 rfl) (t := 212) (by decide) (n := 74) rfl (fun h71 => ?_) (fun h71 => ?_)
                · refine p_iload (z_dec zd_X9_players 122 rfl) 1 rfl (n := 214) rfl ?_
                  exact p_iret (z_dec zd_X9_players 123 rfl) rfl ⟨(by unfold f_X9_players; rw [if_neg h4, if_neg h16, if_neg h27, if_pos h38, if_pos h59]), rfl, (z_3 (by unfold m_X9_players; rw [if_neg h4, if_neg h16, if_neg h27, if_pos h38, if_pos h59]) rfl)⟩
                · exact absurd h71 (by decide)
              · refine p_iconst (z_dec zd_X9_players 34 rfl) (v := 1) (by decide) (n := 63) rfl ?_
                refine p_goto (z_dec zd_X9_players 35 rfl) (t := 67) (by decide) ?_
                refine p_istore (z_dec zd_X9_players 37 rfl) (lv2 := [(5, .int 1), (4, .int 0), (0, .ref 54), (1, .int sh), (2, .int i), (3, .int n)]) (by decide) rfl (n := 69) rfl ?_
                have hL69 : ∀ (r69 t69 : Nat) (Iv : Nat → Nat → Int32), t69 + r69 = n.toNatClampNeg → yq_pl np t69 I Iv → PW zm_X9_players d 69 [(5, .int 1), (4, .int (nI t69)), (0, .ref 54), (1, .int sh), (2, .int i), (3, .int n)] [] SH (Iv, L, z_R b) 0 0 (z_ret (some (.int (gx_X9_players_69 L np sh i r69 t69 Iv).1)) ((gx_X9_players_69 L np sh i r69 t69 Iv).2, L, z_R b)) := by
                  intro r69
                  induction r69 with
                  | zero =>
                    intro t69 Iv ht69 hlo
                    refine p_iload (z_dec zd_X9_players 38 rfl) 0 rfl (n := 71) rfl ?_
                    refine p_if_eq (z_dec zd_X9_players 39 rfl) (t := 212) (by decide) (n := 74) rfl (fun h71 => ?_) (fun h71 => ?_)
                    · exact absurd h71 (by decide)
                    · refine p_iload (z_dec zd_X9_players 40 rfl) 1 rfl (n := 76) rfl ?_
                      refine p_iload_n (z_dec zd_X9_players 41 rfl) rfl 5 rfl (n := 77) rfl ?_
                      refine p_icmp_ge (z_dec zd_X9_players 42 rfl) (t := 212) (by decide) (n := 80) rfl (fun h77 => ?_) (fun h77 => ?_)
                      · refine p_iload (z_dec zd_X9_players 122 rfl) 1 rfl (n := 214) rfl ?_
                        exact p_iret (z_dec zd_X9_players 123 rfl) rfl ⟨rfl, rfl, (z_3 rfl rfl)⟩
                      · exact absurd ((by have := z_nge (a := n.toNatClampNeg) (b := t69) (by rw [← hn.1]; exact h77); exact this)) (by omega)
                  | succ r69 ih69 =>
                    intro t69 Iv ht69 hlo
                    refine p_iload (z_dec zd_X9_players 38 rfl) 0 rfl (n := 71) rfl ?_
                    refine p_if_eq (z_dec zd_X9_players 39 rfl) (t := 212) (by decide) (n := 74) rfl (fun h71 => ?_) (fun h71 => ?_)
                    · exact absurd h71 (by decide)
                    · refine p_iload (z_dec zd_X9_players 40 rfl) 1 rfl (n := 76) rfl ?_
                      refine p_iload_n (z_dec zd_X9_players 41 rfl) rfl 5 rfl (n := 77) rfl ?_
                      refine p_icmp_ge (z_dec zd_X9_players 42 rfl) (t := 212) (by decide) (n := 80) rfl (fun h77 => ?_) (fun h77 => ?_)
                      · exact absurd ((by have := z_ge (a := n.toNatClampNeg) (b := t69) (by rw [← hn.1]; exact h77); exact this)) (by omega)
                      · have hx69 : t69 < n.toNatClampNeg := by omega
                        refine p_iload_n (z_dec zd_X9_players 43 rfl) rfl 4 rfl (n := 81) rfl ?_
                        refine p_aload_n (z_dec zd_X9_players 44 rfl) rfl 2 rfl (n := 82) rfl ?_
                        refine q_getR (z_dec zd_X9_players 45 rfl) zf_X9_73 (i := 76) rfl rfl (n := 85) rfl ?_
                        refine p_iload_n (z_dec zd_X9_players 46 rfl) rfl 3 rfl (n := 86) rfl ?_
                        refine q_iald (z_dec zd_X9_players 47 rfl) rfl (by decide) (sh.toNatClampNeg) hj_sh.1 (by omega) (v := (Iv 76 sh.toNatClampNeg)) rfl (n := 87) rfl ?_
                        refine p_iconst (z_dec zd_X9_players 48 rfl) (v := 3) (by decide) (n := 88) rfl ?_
                        refine p_isub (z_dec zd_X9_players 49 rfl) (n := 89) rfl ?_
                        refine p_iconst (z_dec zd_X9_players 50 rfl) (v := 3) (by decide) (n := 90) rfl ?_
                        refine p_iload (z_dec zd_X9_players 51 rfl) 1 rfl (n := 92) rfl ?_
                        refine p_imul (z_dec zd_X9_players 52 rfl) (n := 93) rfl ?_
                        refine p_isub (z_dec zd_X9_players 53 rfl) (n := 94) rfl ?_
                        refine p_icmp_gt (z_dec zd_X9_players 54 rfl) (t := 110) (by decide) (n := 97) rfl (fun h94 => ?_) (fun h94 => ?_)
                        · refine p_iconst (z_dec zd_X9_players 61 rfl) (v := 0) (by decide) (n := 111) rfl ?_
                          refine p_istore (z_dec zd_X9_players 62 rfl) (lv2 := [(5, .int 0), (4, .int (nI t69)), (0, .ref 54), (1, .int sh), (2, .int i), (3, .int n)]) (by decide) rfl (n := 113) rfl ?_
                          refine p_bipush (z_dec zd_X9_players 63 rfl) (v := 60) (by decide) (n := 115) rfl ?_
                          refine p_iload_n (z_dec zd_X9_players 64 rfl) rfl 3 rfl (n := 116) rfl ?_
                          refine p_imul (z_dec zd_X9_players 65 rfl) (n := 117) rfl ?_
                          refine p_iload_n (z_dec zd_X9_players 66 rfl) rfl 4 rfl (n := 118) rfl ?_
                          refine p_iadd (z_dec zd_X9_players 67 rfl) (n := 119) rfl ?_
                          refine p_iconst (z_dec zd_X9_players 68 rfl) (v := 3) (by decide) (n := 120) rfl ?_
                          refine p_iload (z_dec zd_X9_players 69 rfl) 1 rfl (n := 122) rfl ?_
                          refine p_imul (z_dec zd_X9_players 70 rfl) (n := 123) rfl ?_
                          refine p_iadd (z_dec zd_X9_players 71 rfl) (n := 124) rfl ?_
                          refine p_istore (z_dec zd_X9_players 72 rfl) (lv2 := [(6, .int (((60 * sh) + i) + (3 * (nI t69)))), (5, .int 0), (4, .int (nI t69)), (0, .ref 54), (1, .int sh), (2, .int i), (3, .int n)]) (by decide) rfl (n := 126) rfl ?_
                          refine p_iload (z_dec zd_X9_players 73 rfl) 1 rfl (n := 128) rfl ?_
                          refine p_if_eq (z_dec zd_X9_players 74 rfl) (t := 166) (by decide) (n := 131) rfl (fun h128 => ?_) (fun h128 => ?_)
                          · refine p_iconst (z_dec zd_X9_players 95 rfl) (v := 0) (by decide) (n := 167) rfl ?_
                            refine p_istore (z_dec zd_X9_players 96 rfl) (lv2 := [(5, .int 0), (6, .int (((60 * sh) + i) + (3 * (nI t69)))), (4, .int (nI t69)), (0, .ref 54), (1, .int sh), (2, .int i), (3, .int n)]) (by decide) rfl (n := 169) rfl ?_
                            refine p_iload (z_dec zd_X9_players 97 rfl) 0 rfl (n := 171) rfl ?_
                            refine p_if_eq (z_dec zd_X9_players 98 rfl) (t := 209) (by decide) (n := 174) rfl (fun h171 => ?_) (fun h171 => ?_)
                            · refine p_goto (z_dec zd_X9_players 121 rfl) (t := 69) (by decide) ?_
                              refine p_iload (z_dec zd_X9_players 38 rfl) 0 rfl (n := 71) rfl ?_
                              refine p_if_eq (z_dec zd_X9_players 39 rfl) (t := 212) (by decide) (n := 74) rfl (fun h71 => ?_) (fun h71 => ?_)
                              · refine p_iload (z_dec zd_X9_players 122 rfl) 2 rfl (n := 214) rfl ?_
                                exact p_iret (z_dec zd_X9_players 123 rfl) rfl ⟨(by (conv => rhs; unfold gx_X9_players_69); rw [if_pos h94]), rfl, (z_3 (by (conv => rhs; unfold gx_X9_players_69); rw [if_pos h94]) rfl)⟩
                              · exact absurd h71 (by decide)
                            · exact absurd h171 (by decide)
                          · exact absurd h128 (by decide)
                        · have hq := z_pix ((hlo.2.2 _).trans (hmn _ hj_sh.2).1) (hmn _ hj_sh.2).2 (by omega) h59 h94
                          have hq2 := (hmn _ hj_sh.2).2
                          refine p_aload_n (z_dec zd_X9_players 55 rfl) rfl 2 rfl (n := 98) rfl ?_
                          refine q_getI (z_dec zd_X9_players 56 rfl) zf_X9_93 (by decide) rfl (v := (nI (np + t69))) hlo.1 (n := 101) rfl ?_
                          refine p_bipush (z_dec zd_X9_players 57 rfl) (v := 10) (by decide) (n := 103) rfl ?_
                          refine p_icmp_ge (z_dec zd_X9_players 58 rfl) (t := 110) (by decide) (n := 106) rfl (fun h103 => ?_) (fun h103 => ?_)
                          · refine p_iconst (z_dec zd_X9_players 61 rfl) (v := 0) (by decide) (n := 111) rfl ?_
                            refine p_istore (z_dec zd_X9_players 62 rfl) (lv2 := [(5, .int 0), (4, .int (nI t69)), (0, .ref 54), (1, .int sh), (2, .int i), (3, .int n)]) (by decide) rfl (n := 113) rfl ?_
                            refine p_bipush (z_dec zd_X9_players 63 rfl) (v := 60) (by decide) (n := 115) rfl ?_
                            refine p_iload_n (z_dec zd_X9_players 64 rfl) rfl 3 rfl (n := 116) rfl ?_
                            refine p_imul (z_dec zd_X9_players 65 rfl) (n := 117) rfl ?_
                            refine p_iload_n (z_dec zd_X9_players 66 rfl) rfl 4 rfl (n := 118) rfl ?_
                            refine p_iadd (z_dec zd_X9_players 67 rfl) (n := 119) rfl ?_
                            refine p_iconst (z_dec zd_X9_players 68 rfl) (v := 3) (by decide) (n := 120) rfl ?_
                            refine p_iload (z_dec zd_X9_players 69 rfl) 1 rfl (n := 122) rfl ?_
                            refine p_imul (z_dec zd_X9_players 70 rfl) (n := 123) rfl ?_
                            refine p_iadd (z_dec zd_X9_players 71 rfl) (n := 124) rfl ?_
                            refine p_istore (z_dec zd_X9_players 72 rfl) (lv2 := [(6, .int (((60 * sh) + i) + (3 * (nI t69)))), (5, .int 0), (4, .int (nI t69)), (0, .ref 54), (1, .int sh), (2, .int i), (3, .int n)]) (by decide) rfl (n := 126) rfl ?_
                            refine p_iload (z_dec zd_X9_players 73 rfl) 1 rfl (n := 128) rfl ?_
                            refine p_if_eq (z_dec zd_X9_players 74 rfl) (t := 166) (by decide) (n := 131) rfl (fun h128 => ?_) (fun h128 => ?_)
                            · refine p_iconst (z_dec zd_X9_players 95 rfl) (v := 0) (by decide) (n := 167) rfl ?_
                              refine p_istore (z_dec zd_X9_players 96 rfl) (lv2 := [(5, .int 0), (6, .int (((60 * sh) + i) + (3 * (nI t69)))), (4, .int (nI t69)), (0, .ref 54), (1, .int sh), (2, .int i), (3, .int n)]) (by decide) rfl (n := 169) rfl ?_
                              refine p_iload (z_dec zd_X9_players 97 rfl) 0 rfl (n := 171) rfl ?_
                              refine p_if_eq (z_dec zd_X9_players 98 rfl) (t := 209) (by decide) (n := 174) rfl (fun h171 => ?_) (fun h171 => ?_)
                              · refine p_goto (z_dec zd_X9_players 121 rfl) (t := 69) (by decide) ?_
                                refine p_iload (z_dec zd_X9_players 38 rfl) 0 rfl (n := 71) rfl ?_
                                refine p_if_eq (z_dec zd_X9_players 39 rfl) (t := 212) (by decide) (n := 74) rfl (fun h71 => ?_) (fun h71 => ?_)
                                · refine p_iload (z_dec zd_X9_players 122 rfl) 2 rfl (n := 214) rfl ?_
                                  exact p_iret (z_dec zd_X9_players 123 rfl) rfl ⟨(by (conv => rhs; unfold gx_X9_players_69); rw [if_neg h94, if_pos h103]), rfl, (z_3 (by (conv => rhs; unfold gx_X9_players_69); rw [if_neg h94, if_pos h103]) rfl)⟩
                                · exact absurd h71 (by decide)
                              · exact absurd h171 (by decide)
                            · exact absurd h128 (by decide)
                          · have hnl := z_nge (a := 10) h103
                            refine p_iconst (z_dec zd_X9_players 59 rfl) (v := 1) (by decide) (n := 107) rfl ?_
                            refine p_goto (z_dec zd_X9_players 60 rfl) (t := 111) (by decide) ?_
                            refine p_istore (z_dec zd_X9_players 62 rfl) (lv2 := [(5, .int 1), (4, .int (nI t69)), (0, .ref 54), (1, .int sh), (2, .int i), (3, .int n)]) (by decide) rfl (n := 113) rfl ?_
                            refine p_bipush (z_dec zd_X9_players 63 rfl) (v := 60) (by decide) (n := 115) rfl ?_
                            refine p_iload_n (z_dec zd_X9_players 64 rfl) rfl 3 rfl (n := 116) rfl ?_
                            refine p_imul (z_dec zd_X9_players 65 rfl) (n := 117) rfl ?_
                            refine p_iload_n (z_dec zd_X9_players 66 rfl) rfl 4 rfl (n := 118) rfl ?_
                            refine p_iadd (z_dec zd_X9_players 67 rfl) (n := 119) rfl ?_
                            refine p_iconst (z_dec zd_X9_players 68 rfl) (v := 3) (by decide) (n := 120) rfl ?_
                            refine p_iload (z_dec zd_X9_players 69 rfl) 1 rfl (n := 122) rfl ?_
                            refine p_imul (z_dec zd_X9_players 70 rfl) (n := 123) rfl ?_
                            refine p_iadd (z_dec zd_X9_players 71 rfl) (n := 124) rfl ?_
                            refine p_istore (z_dec zd_X9_players 72 rfl) (lv2 := [(6, .int (((60 * sh) + i) + (3 * (nI t69)))), (5, .int 1), (4, .int (nI t69)), (0, .ref 54), (1, .int sh), (2, .int i), (3, .int n)]) (by decide) rfl (n := 126) rfl ?_
                            refine p_iload (z_dec zd_X9_players 73 rfl) 1 rfl (n := 128) rfl ?_
                            refine p_if_eq (z_dec zd_X9_players 74 rfl) (t := 166) (by decide) (n := 131) rfl (fun h128 => ?_) (fun h128 => ?_)
                            · exact absurd h128 (by decide)
                            · refine p_aload_n (z_dec zd_X9_players 75 rfl) rfl 3 rfl (n := 132) rfl ?_
                              refine q_getR (z_dec zd_X9_players 76 rfl) zf_X9_76 (i := 77) rfl rfl (n := 135) rfl ?_
                              refine p_iload (z_dec zd_X9_players 77 rfl) 0 rfl (n := 137) rfl ?_
                              refine q_lald (z_dec zd_X9_players 78 rfl) rfl (by decide) (((60 * sh.toNatClampNeg) + i.toNatClampNeg) + (3 * t69)) (z_addE (z_addE (z_mulE rfl hj_sh.1) hq.1) (z_mulE rfl rfl)) (by omega) (v := (L 77 (((60 * sh.toNatClampNeg) + i.toNatClampNeg) + (3 * t69)))) rfl (n := 138) rfl ?_
                              refine p_aload_n (z_dec zd_X9_players 79 rfl) rfl 3 rfl (n := 139) rfl ?_
                              refine q_getR (z_dec zd_X9_players 80 rfl) zf_X9_76 (i := 77) rfl rfl (n := 142) rfl ?_
                              refine p_iload (z_dec zd_X9_players 81 rfl) 0 rfl (n := 144) rfl ?_
                              refine p_iconst (z_dec zd_X9_players 82 rfl) (v := 1) (by decide) (n := 145) rfl ?_
                              refine p_iadd (z_dec zd_X9_players 83 rfl) (n := 146) rfl ?_
                              refine q_lald (z_dec zd_X9_players 84 rfl) rfl (by decide) ((((60 * sh.toNatClampNeg) + i.toNatClampNeg) + (3 * t69)) + 1) (z_addE (z_addE (z_addE (z_mulE rfl hj_sh.1) hq.1) (z_mulE rfl rfl)) rfl) (by omega) (v := (L 77 ((((60 * sh.toNatClampNeg) + i.toNatClampNeg) + (3 * t69)) + 1))) rfl (n := 147) rfl ?_
                              refine p_aload_n (z_dec zd_X9_players 85 rfl) rfl 3 rfl (n := 148) rfl ?_
                              refine q_getR (z_dec zd_X9_players 86 rfl) zf_X9_76 (i := 77) rfl rfl (n := 151) rfl ?_
                              refine p_iload (z_dec zd_X9_players 87 rfl) 0 rfl (n := 153) rfl ?_
                              refine p_iconst (z_dec zd_X9_players 88 rfl) (v := 2) (by decide) (n := 154) rfl ?_
                              refine p_iadd (z_dec zd_X9_players 89 rfl) (n := 155) rfl ?_
                              refine q_lald (z_dec zd_X9_players 90 rfl) rfl (by decide) ((((60 * sh.toNatClampNeg) + i.toNatClampNeg) + (3 * t69)) + 2) (z_addE (z_addE (z_addE (z_mulE rfl hj_sh.1) hq.1) (z_mulE rfl rfl)) rfl) (by omega) (v := (L 77 ((((60 * sh.toNatClampNeg) + i.toNatClampNeg) + (3 * t69)) + 2))) rfl (n := 156) rfl ?_
                              refine q_callS (As := [.long (L 77 (((60 * sh.toNatClampNeg) + i.toNatClampNeg) + (3 * t69))), .long (L 77 ((((60 * sh.toNatClampNeg) + i.toNatClampNeg) + (3 * t69)) + 1)), .long (L 77 ((((60 * sh.toNatClampNeg) + i.toNatClampNeg) + (3 * t69)) + 2))]) (rest := []) (z_dec zd_X9_players 91 rfl) zk_X9_106 zs_X9_mayCome (c_X9_mayCome (d - 1) (by omega) b Iv L (L 77 (((60 * sh.toNatClampNeg) + i.toNatClampNeg) + (3 * t69))) (L 77 ((((60 * sh.toNatClampNeg) + i.toNatClampNeg) + (3 * t69)) + 1)) (L 77 ((((60 * sh.toNatClampNeg) + i.toNatClampNeg) + (3 * t69)) + 2))) rfl rfl (Nat.le_of_ble_eq_true rfl) (by omega) (n := 159) rfl ?_
                              show PW zm_X9_players d 159 [(6, .int (((60 * sh) + i) + (3 * (nI t69)))), (5, .int 1), (4, .int (nI t69)), (0, .ref 54), (1, .int sh), (2, .int i), (3, .int n)] [.int (f_X9_mayCome (L 77 (((60 * sh.toNatClampNeg) + i.toNatClampNeg) + (3 * t69))) (L 77 ((((60 * sh.toNatClampNeg) + i.toNatClampNeg) + (3 * t69)) + 1)) (L 77 ((((60 * sh.toNatClampNeg) + i.toNatClampNeg) + (3 * t69)) + 2)))] SH (Iv, L, z_R b) 0 0 _
                              refine p_if_eq (z_dec zd_X9_players 92 rfl) (t := 166) (by decide) (n := 162) rfl (fun h159 => ?_) (fun h159 => ?_)
                              · refine p_iconst (z_dec zd_X9_players 95 rfl) (v := 0) (by decide) (n := 167) rfl ?_
                                refine p_istore (z_dec zd_X9_players 96 rfl) (lv2 := [(5, .int 0), (6, .int (((60 * sh) + i) + (3 * (nI t69)))), (4, .int (nI t69)), (0, .ref 54), (1, .int sh), (2, .int i), (3, .int n)]) (by decide) rfl (n := 169) rfl ?_
                                refine p_iload (z_dec zd_X9_players 97 rfl) 0 rfl (n := 171) rfl ?_
                                refine p_if_eq (z_dec zd_X9_players 98 rfl) (t := 209) (by decide) (n := 174) rfl (fun h171 => ?_) (fun h171 => ?_)
                                · refine p_goto (z_dec zd_X9_players 121 rfl) (t := 69) (by decide) ?_
                                  refine p_iload (z_dec zd_X9_players 38 rfl) 0 rfl (n := 71) rfl ?_
                                  refine p_if_eq (z_dec zd_X9_players 39 rfl) (t := 212) (by decide) (n := 74) rfl (fun h71 => ?_) (fun h71 => ?_)
                                  · refine p_iload (z_dec zd_X9_players 122 rfl) 2 rfl (n := 214) rfl ?_
                                    exact p_iret (z_dec zd_X9_players 123 rfl) rfl ⟨(by (conv => rhs; unfold gx_X9_players_69); rw [if_neg h94, if_neg h103, if_pos h159]), rfl, (z_3 (by (conv => rhs; unfold gx_X9_players_69); rw [if_neg h94, if_neg h103, if_pos h159]) rfl)⟩
                                  · exact absurd h71 (by decide)
                                · exact absurd h171 (by decide)
                              · refine p_iconst (z_dec zd_X9_players 93 rfl) (v := 1) (by decide) (n := 163) rfl ?_
                                refine p_goto (z_dec zd_X9_players 94 rfl) (t := 167) (by decide) ?_
                                refine p_istore (z_dec zd_X9_players 96 rfl) (lv2 := [(5, .int 1), (6, .int (((60 * sh) + i) + (3 * (nI t69)))), (4, .int (nI t69)), (0, .ref 54), (1, .int sh), (2, .int i), (3, .int n)]) (by decide) rfl (n := 169) rfl ?_
                                refine p_iload (z_dec zd_X9_players 97 rfl) 0 rfl (n := 171) rfl ?_
                                refine p_if_eq (z_dec zd_X9_players 98 rfl) (t := 209) (by decide) (n := 174) rfl (fun h171 => ?_) (fun h171 => ?_)
                                · exact absurd h171 (by decide)
                                · refine p_aload_n (z_dec zd_X9_players 99 rfl) rfl 3 rfl (n := 175) rfl ?_
                                  refine p_aload_n (z_dec zd_X9_players 100 rfl) rfl 3 rfl (n := 176) rfl ?_
                                  refine q_getR (z_dec zd_X9_players 101 rfl) zf_X9_76 (i := 77) rfl rfl (n := 179) rfl ?_
                                  refine p_iload (z_dec zd_X9_players 102 rfl) 1 rfl (n := 181) rfl ?_
                                  refine q_lald (z_dec zd_X9_players 103 rfl) rfl (by decide) (((60 * sh.toNatClampNeg) + i.toNatClampNeg) + (3 * t69)) (z_addE (z_addE (z_mulE rfl hj_sh.1) hq.1) (z_mulE rfl rfl)) (by omega) (v := (L 77 (((60 * sh.toNatClampNeg) + i.toNatClampNeg) + (3 * t69)))) rfl (n := 182) rfl ?_
                                  refine p_l2i (z_dec zd_X9_players 104 rfl) (n := 183) rfl ?_
                                  refine p_aload_n (z_dec zd_X9_players 105 rfl) rfl 3 rfl (n := 184) rfl ?_
                                  refine q_getR (z_dec zd_X9_players 106 rfl) zf_X9_76 (i := 77) rfl rfl (n := 187) rfl ?_
                                  refine p_iload (z_dec zd_X9_players 107 rfl) 1 rfl (n := 189) rfl ?_
                                  refine p_iconst (z_dec zd_X9_players 108 rfl) (v := 1) (by decide) (n := 190) rfl ?_
                                  refine p_iadd (z_dec zd_X9_players 109 rfl) (n := 191) rfl ?_
                                  refine q_lald (z_dec zd_X9_players 110 rfl) rfl (by decide) ((((60 * sh.toNatClampNeg) + i.toNatClampNeg) + (3 * t69)) + 1) (z_addE (z_addE (z_addE (z_mulE rfl hj_sh.1) hq.1) (z_mulE rfl rfl)) rfl) (by omega) (v := (L 77 ((((60 * sh.toNatClampNeg) + i.toNatClampNeg) + (3 * t69)) + 1))) rfl (n := 192) rfl ?_
                                  refine p_l2i (z_dec zd_X9_players 111 rfl) (n := 193) rfl ?_
                                  refine p_aload_n (z_dec zd_X9_players 112 rfl) rfl 3 rfl (n := 194) rfl ?_
                                  refine q_getR (z_dec zd_X9_players 113 rfl) zf_X9_76 (i := 77) rfl rfl (n := 197) rfl ?_
                                  refine p_iload (z_dec zd_X9_players 114 rfl) 1 rfl (n := 199) rfl ?_
                                  refine p_iconst (z_dec zd_X9_players 115 rfl) (v := 2) (by decide) (n := 200) rfl ?_
                                  refine p_iadd (z_dec zd_X9_players 116 rfl) (n := 201) rfl ?_
                                  refine q_lald (z_dec zd_X9_players 117 rfl) rfl (by decide) ((((60 * sh.toNatClampNeg) + i.toNatClampNeg) + (3 * t69)) + 2) (z_addE (z_addE (z_addE (z_mulE rfl hj_sh.1) hq.1) (z_mulE rfl rfl)) rfl) (by omega) (v := (L 77 ((((60 * sh.toNatClampNeg) + i.toNatClampNeg) + (3 * t69)) + 2))) rfl (n := 202) rfl ?_
                                  refine p_l2i (z_dec zd_X9_players 118 rfl) (n := 203) rfl ?_
                                  refine q_callV (As := [.int ((L 77 (((60 * sh.toNatClampNeg) + i.toNatClampNeg) + (3 * t69))).toInt32), .int ((L 77 ((((60 * sh.toNatClampNeg) + i.toNatClampNeg) + (3 * t69)) + 1)).toInt32), .int ((L 77 ((((60 * sh.toNatClampNeg) + i.toNatClampNeg) + (3 * t69)) + 2)).toInt32)]) (rest := []) (z_dec zd_X9_players 119 rfl) zk_X9_109 zv_X9_adds (c_X9_adds (d - 1) (by omega) b Iv L (np + t69) hlo.1 hlo.2.1 ((L 77 (((60 * sh.toNatClampNeg) + i.toNatClampNeg) + (3 * t69))).toInt32) ((L 77 ((((60 * sh.toNatClampNeg) + i.toNatClampNeg) + (3 * t69)) + 1)).toInt32) ((L 77 ((((60 * sh.toNatClampNeg) + i.toNatClampNeg) + (3 * t69)) + 2)).toInt32) hnl) rfl ⟨_, _, rfl⟩ rfl rfl (Nat.le_of_ble_eq_true rfl) (by omega) (n := 206) rfl ?_
                                  show PW zm_X9_players d 206 [(5, .int 1), (6, .int (((60 * sh) + i) + (3 * (nI t69)))), (4, .int (nI t69)), (0, .ref 54), (1, .int sh), (2, .int i), (3, .int n)] [] SH ((m_X9_adds Iv (np + t69) ((L 77 (((60 * sh.toNatClampNeg) + i.toNatClampNeg) + (3 * t69))).toInt32) ((L 77 ((((60 * sh.toNatClampNeg) + i.toNatClampNeg) + (3 * t69)) + 1)).toInt32) ((L 77 ((((60 * sh.toNatClampNeg) + i.toNatClampNeg) + (3 * t69)) + 2)).toInt32)), L, z_R b) 0 0 _
                                  refine p_iinc (z_dec zd_X9_players 120 rfl) 2 rfl (v := (nI (t69 + 1))) (nI_1 _) (lv2 := [(4, .int (nI (t69 + 1))), (5, .int 1), (6, .int (((60 * sh) + i) + (3 * (nI t69)))), (0, .ref 54), (1, .int sh), (2, .int i), (3, .int n)]) (by decide) rfl (n := 209) rfl ?_
                                  refine p_goto (z_dec zd_X9_players 121 rfl) (t := 69) (by decide) ?_
                                  refine z_sub (lv' := [(5, .int 1), (4, .int (nI (t69 + 1))), (0, .ref 54), (1, .int sh), (2, .int i), (3, .int n)]) [1, 0, 3, 4, 5, 6] rfl ?_
                                  rw [show gx_X9_players_69 L np sh i (r69 + 1) t69 Iv = gx_X9_players_69 L np sh i r69 (t69 + 1) (m_X9_adds Iv (np + t69) ((L 77 (((60 * sh.toNatClampNeg) + i.toNatClampNeg) + (3 * t69))).toInt32) ((L 77 ((((60 * sh.toNatClampNeg) + i.toNatClampNeg) + (3 * t69)) + 1)).toInt32) ((L 77 ((((60 * sh.toNatClampNeg) + i.toNatClampNeg) + (3 * t69)) + 2)).toInt32)) from by (conv => lhs; unfold gx_X9_players_69); rw [if_neg h94, if_neg h103, if_neg h159]]
                                  exact ih69 (t69 + 1) (m_X9_adds Iv (np + t69) ((L 77 (((60 * sh.toNatClampNeg) + i.toNatClampNeg) + (3 * t69))).toInt32) ((L 77 ((((60 * sh.toNatClampNeg) + i.toNatClampNeg) + (3 * t69)) + 1)).toInt32) ((L 77 ((((60 * sh.toNatClampNeg) + i.toNatClampNeg) + (3 * t69)) + 2)).toInt32)) (by omega) (yq_plA hlo hnl _ _ _)
                exact (by have q := (hL69 n.toNatClampNeg 0 I (by omega) ⟨hnp, hn10, fun _ => rfl⟩); (rw [show f_X9_players I L np sh i n = _ from by unfold f_X9_players; rw [if_neg h4, if_neg h16, if_neg h27, if_pos h38, if_neg h59]]); (rw [show m_X9_players I L np sh i n = _ from by unfold m_X9_players; rw [if_neg h4, if_neg h16, if_neg h27, if_pos h38, if_neg h59]]); exact q)
          · refine p_bipush (z_dec zd_X9_players 22 rfl) (v := (-12)) (by decide) (n := 43) rfl ?_
            exact p_iret (z_dec zd_X9_players 23 rfl) rfl ⟨(by unfold f_X9_players; rw [if_neg h4, if_neg h16, if_neg h27, if_neg h38]), rfl, (z_3 (by unfold m_X9_players; rw [if_neg h4, if_neg h16, if_neg h27, if_neg h38]) rfl)⟩
      · refine p_iconst (z_dec zd_X9_players 9 rfl) (v := (-1)) (by decide) (n := 20) rfl ?_
        exact p_iret (z_dec zd_X9_players 10 rfl) rfl ⟨(by unfold f_X9_players; rw [if_neg h4, if_pos h16]), rfl, (z_3 (by unfold m_X9_players; rw [if_neg h4, if_pos h16]) rfl)⟩
  exact hentry
