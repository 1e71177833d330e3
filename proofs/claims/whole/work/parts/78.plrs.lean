/-- t players have come; the row's length -/
def yq_P (np t k len : Nat) (I : Nat → Nat → Int32) : Prop := I 1 0 = nI (np + t) ∧ np + t ≤ 10 ∧ I k 2 = nI len
theorem yq_full {np t k len : Nat} {I : Nat → Nat → Int32} (h : yq_P np t k len I) (g : f_X7_isFull I 1 = 0) : np + t < 10 := by
  unfold f_X7_isFull at g
  rw [h.1] at g
  have h10 := h.2.1
  by_cases q : nI (np + t) < 10
  · exact z_lt (b := 10) q
  · rw [if_neg q] at g; exact absurd g (by decide)
theorem yq_jn {np t k len : Nat} {I : Nat → Nat → Int32} (hk : 42 ≤ k) (h : yq_P np t k len I) (g : f_X7_isFull I 1 = 0) (x y z : Int32) : yq_P np (t + 1) k len (m_X7_join I 1 (np + t) x y z) := by
  have hl := yq_full h g
  unfold m_X7_join
  rw [if_pos g]
  refine ⟨?_, by omega, ?_⟩
  · rw [z_up_s, nI_1]; rfl
  · rw [z_up_k _ _ (by omega), z_up_k _ _ (by omega), z_up_k _ _ (by omega), z_up_k _ _ (by omega), z_up_k _ _ (by omega)]
    exact h.2.2
def gx_X8_players_56 (L : Nat → Nat → Int64) (np : Nat) (sh : Int32) : Nat → Nat → (Int32) → (Nat → Nat → Int32) → Int32 × (Nat → Nat → Int32)
  | 0, t56, v2, Iv => ((nI t56), Iv)
  | r56 + 1, t56, v2, Iv => if v2 < 0 then ((nI t56), Iv) else if ((Iv (42 + 2 * sh.toNatClampNeg) 2) - 3) < v2 then ((nI t56), Iv) else if (f_X7_isFull Iv 1) = 0 then if (f_X8_isWithin 0 ((f_X4_valueAt Iv L (42 + 2 * sh.toNatClampNeg) v2).toInt32)) = 0 then ((nI t56), Iv) else if (f_X8_isWithin 1 ((f_X4_valueAt Iv L (42 + 2 * sh.toNatClampNeg) (v2 + 1)).toInt32)) = 0 then ((nI t56), Iv) else if (f_X8_isWithin 2 ((f_X4_valueAt Iv L (42 + 2 * sh.toNatClampNeg) (v2 + 2)).toInt32)) = 0 then ((nI t56), Iv) else gx_X8_players_56 L np sh r56 (t56 + 1) (v2 + 3) (m_X7_join Iv 1 (np + t56) ((f_X4_valueAt Iv L (42 + 2 * sh.toNatClampNeg) v2).toInt32) ((f_X4_valueAt Iv L (42 + 2 * sh.toNatClampNeg) (v2 + 1)).toInt32) ((f_X4_valueAt Iv L (42 + 2 * sh.toNatClampNeg) (v2 + 2)).toInt32)) else ((nI t56), Iv)
def f_X8_players (I : Nat → Nat → Int32) (L : Nat → Nat → Int64) (np : Nat) (sh : Int32) (i : Int32) (n : Int32) : Int32 := if (f_X8_isShelf sh) = 0 then (-1) else if n < 1 then (-1) else if n ≤ 10 then if (I (42 + 2 * sh.toNatClampNeg) 0) = 1 then (gx_X8_players_56 L np sh n.toNatClampNeg 0 i I).1 else if (I (42 + 2 * sh.toNatClampNeg) 0) = (-1) then 0 else (-12) else (-1)
def m_X8_players (I : Nat → Nat → Int32) (L : Nat → Nat → Int64) (np : Nat) (sh : Int32) (i : Int32) (n : Int32) : Nat → Nat → Int32 := if (f_X8_isShelf sh) = 0 then I else if n < 1 then I else if n ≤ 10 then if (I (42 + 2 * sh.toNatClampNeg) 0) = 1 then (gx_X8_players_56 L np sh n.toNatClampNeg 0 i I).2 else if (I (42 + 2 * sh.toNatClampNeg) 0) = (-1) then I else I else I
set_option maxHeartbeats 1000000 in
set_option maxRecDepth 100000 in
theorem c_X8_players (d : Nat) (hd : 2 ≤ d) (b : Bool) (I : Nat → Nat → Int32) (L : Nat → Nat → Int64) (np : Nat) (hnp : I 1 0 = nI np) (hn10 : np ≤ 10) (hsl : ∀ j, j < 6 → I (42 + 2 * j) 2 = nI (I (42 + 2 * j) 2).toNatClampNeg ∧ (I (42 + 2 * j) 2).toNatClampNeg ≤ 60) (sh : Int32) (i : Int32) (n : Int32) : z_CT zm_X8_players d [.ref 0, .int sh, .int i, .int n] SH (I, L, z_R b) 0 0 (z_ret (some (.int (f_X8_players I L np sh i n))) ((m_X8_players I L np sh i n), L, z_R b)) := by
  refine z_enter (by decide +kernel) (Nat.le_of_ble_eq_true rfl) ?_
  have hentry : PW zm_X8_players d 0 [(0, .ref 0), (1, .int sh), (2, .int i), (3, .int n)] [] SH (I, L, z_R b) 0 0 (z_ret (some (.int (f_X8_players I L np sh i n))) ((m_X8_players I L np sh i n), L, z_R b)) := by
    refine p_iload_n (z_dec zd_X8_players 0 rfl) rfl 1 rfl (n := 1) rfl ?_
    refine q_callS (As := [.int sh]) (rest := []) (z_dec zd_X8_players 1 rfl) zk_X8_80 zs_X8_isShelf (c_X8_isShelf (d - 1) (by omega) b I L sh) rfl rfl (Nat.le_of_ble_eq_true rfl) (by omega) (n := 4) rfl ?_
    show PW zm_X8_players d 4 [(0, .ref 0), (1, .int sh), (2, .int i), (3, .int n)] [.int (f_X8_isShelf sh)] SH (I, L, z_R b) 0 0 _
    refine p_if_eq (z_dec zd_X8_players 2 rfl) (t := 18) (by decide) (n := 7) rfl (fun h4 => ?_) (fun h4 => ?_)
    · refine p_iconst (z_dec zd_X8_players 9 rfl) (v := (-1)) (by decide) (n := 19) rfl ?_
      exact p_iret (z_dec zd_X8_players 10 rfl) rfl ⟨(by unfold f_X8_players; rw [if_pos h4]), rfl, (z_3 (by unfold m_X8_players; rw [if_pos h4]) rfl)⟩
    · have hj_sh := z_shc h4
      refine p_iload_n (z_dec zd_X8_players 3 rfl) rfl 3 rfl (n := 8) rfl ?_
      refine p_iconst (z_dec zd_X8_players 4 rfl) (v := 1) (by decide) (n := 9) rfl ?_
      refine p_icmp_lt (z_dec zd_X8_players 5 rfl) (t := 18) (by decide) (n := 12) rfl (fun h9 => ?_) (fun h9 => ?_)
      · refine p_iconst (z_dec zd_X8_players 9 rfl) (v := (-1)) (by decide) (n := 19) rfl ?_
        exact p_iret (z_dec zd_X8_players 10 rfl) rfl ⟨(by unfold f_X8_players; rw [if_neg h4, if_pos h9]), rfl, (z_3 (by unfold m_X8_players; rw [if_neg h4, if_pos h9]) rfl)⟩
      · refine p_iload_n (z_dec zd_X8_players 6 rfl) rfl 3 rfl (n := 13) rfl ?_
        refine p_bipush (z_dec zd_X8_players 7 rfl) (v := 10) (by decide) (n := 15) rfl ?_
        refine p_icmp_le (z_dec zd_X8_players 8 rfl) (t := 20) (by decide) (n := 18) rfl (fun h15 => ?_) (fun h15 => ?_)
        · have hn := yq_in1 (N := 10) h9 (Int32.not_lt.mpr h15) (by omega)
          refine p_aload_n (z_dec zd_X8_players 11 rfl) rfl 0 rfl (n := 21) rfl ?_
          refine q_getR (z_dec zd_X8_players 12 rfl) zf_X8_67 (i := 41) rfl rfl (n := 24) rfl ?_
          refine p_iload_n (z_dec zd_X8_players 13 rfl) rfl 1 rfl (n := 25) rfl ?_
          refine q_aald (z_dec zd_X8_players 14 rfl) rfl (by decide) (sh.toNatClampNeg) hj_sh.1 hj_sh.2 (a := (42 + 2 * sh.toNatClampNeg)) (if_pos hj_sh.2) (n := 26) rfl ?_
          refine p_astore (z_dec zd_X8_players 15 rfl) (lv2 := [(4, .ref (42 + 2 * sh.toNatClampNeg)), (0, .ref 0), (1, .int sh), (2, .int i), (3, .int n)]) (by decide) rfl (n := 28) rfl ?_
          refine p_aload (z_dec zd_X8_players 16 rfl) 0 rfl (n := 30) rfl ?_
          refine q_getI (z_dec zd_X8_players 17 rfl) zf_X8_84 (by decide) (z_SfOf b _ hj_sh.2).1 (v := (I (42 + 2 * sh.toNatClampNeg) 0)) rfl (n := 33) rfl ?_
          refine p_iconst (z_dec zd_X8_players 18 rfl) (v := 1) (by decide) (n := 34) rfl ?_
          refine p_icmp_eq (z_dec zd_X8_players 19 rfl) (t := 53) (by decide) (n := 37) rfl (fun h34 => ?_) (fun h34 => ?_)
          · refine p_iconst (z_dec zd_X8_players 28 rfl) (v := 0) (by decide) (n := 54) rfl ?_
            refine p_istore (z_dec zd_X8_players 29 rfl) (lv2 := [(5, .int 0), (4, .ref (42 + 2 * sh.toNatClampNeg)), (0, .ref 0), (1, .int sh), (2, .int i), (3, .int n)]) (by decide) rfl (n := 56) rfl ?_
            have hL56 : ∀ (r56 t56 : Nat) (v2 : Int32) (Iv : Nat → Nat → Int32), t56 + r56 = n.toNatClampNeg → yq_P np t56 (42 + 2 * sh.toNatClampNeg) (I (42 + 2 * sh.toNatClampNeg) 2).toNatClampNeg Iv → PW zm_X8_players d 56 [(5, .int (nI t56)), (4, .ref (42 + 2 * sh.toNatClampNeg)), (0, .ref 0), (1, .int sh), (2, .int v2), (3, .int n)] [] SH (Iv, L, z_R b) 0 0 (z_ret (some (.int (gx_X8_players_56 L np sh r56 t56 v2 Iv).1)) ((gx_X8_players_56 L np sh r56 t56 v2 Iv).2, L, z_R b)) := by
              intro r56
              induction r56 with
              | zero =>
                intro t56 v2 Iv ht56 hlo
                refine p_iload (z_dec zd_X8_players 30 rfl) 0 rfl (n := 58) rfl ?_
                refine p_iload_n (z_dec zd_X8_players 31 rfl) rfl 5 rfl (n := 59) rfl ?_
                refine p_icmp_ge (z_dec zd_X8_players 32 rfl) (t := 171) (by decide) (n := 62) rfl (fun h59 => ?_) (fun h59 => ?_)
                · refine p_iload (z_dec zd_X8_players 87 rfl) 0 rfl (n := 173) rfl ?_
                  exact p_iret (z_dec zd_X8_players 88 rfl) rfl ⟨rfl, rfl, (z_3 rfl rfl)⟩
                · exact absurd ((by have := z_nge (a := n.toNatClampNeg) (b := t56) (by rw [← hn.1]; exact h59); exact this)) (by omega)
              | succ r56 ih56 =>
                intro t56 v2 Iv ht56 hlo
                refine p_iload (z_dec zd_X8_players 30 rfl) 0 rfl (n := 58) rfl ?_
                refine p_iload_n (z_dec zd_X8_players 31 rfl) rfl 5 rfl (n := 59) rfl ?_
                refine p_icmp_ge (z_dec zd_X8_players 32 rfl) (t := 171) (by decide) (n := 62) rfl (fun h59 => ?_) (fun h59 => ?_)
                · exact absurd ((by have := z_ge (a := n.toNatClampNeg) (b := t56) (by rw [← hn.1]; exact h59); exact this)) (by omega)
                · have hx56 : t56 < n.toNatClampNeg := by omega
                  refine p_iload_n (z_dec zd_X8_players 33 rfl) rfl 4 rfl (n := 63) rfl ?_
                  refine p_if_lt (z_dec zd_X8_players 34 rfl) (t := 171) (by decide) (n := 66) rfl (fun h63 => ?_) (fun h63 => ?_)
                  · refine p_iload (z_dec zd_X8_players 87 rfl) 0 rfl (n := 173) rfl ?_
                    exact p_iret (z_dec zd_X8_players 88 rfl) rfl ⟨(by (conv => rhs; unfold gx_X8_players_56); rw [if_pos h63]), rfl, (z_3 (by (conv => rhs; unfold gx_X8_players_56); rw [if_pos h63]) rfl)⟩
                  · refine p_iload_n (z_dec zd_X8_players 35 rfl) rfl 4 rfl (n := 67) rfl ?_
                    refine p_aload (z_dec zd_X8_players 36 rfl) 1 rfl (n := 69) rfl ?_
                    refine q_getI (z_dec zd_X8_players 37 rfl) zf_X8_88 (by decide) (z_SfOf b _ hj_sh.2).1 (v := (Iv (42 + 2 * sh.toNatClampNeg) 2)) rfl (n := 72) rfl ?_
                    refine p_iconst (z_dec zd_X8_players 38 rfl) (v := 3) (by decide) (n := 73) rfl ?_
                    refine p_isub (z_dec zd_X8_players 39 rfl) (n := 74) rfl ?_
                    refine p_icmp_gt (z_dec zd_X8_players 40 rfl) (t := 171) (by decide) (n := 77) rfl (fun h74 => ?_) (fun h74 => ?_)
                    · refine p_iload (z_dec zd_X8_players 87 rfl) 0 rfl (n := 173) rfl ?_
                      exact p_iret (z_dec zd_X8_players 88 rfl) rfl ⟨(by (conv => rhs; unfold gx_X8_players_56); rw [if_neg h63, if_pos h74]), rfl, (z_3 (by (conv => rhs; unfold gx_X8_players_56); rw [if_neg h63, if_pos h74]) rfl)⟩
                    · refine p_aload_n (z_dec zd_X8_players 41 rfl) rfl 2 rfl (n := 78) rfl ?_
                      refine q_getR (z_dec zd_X8_players 42 rfl) zf_X8_10 (i := 1) rfl rfl (n := 81) rfl ?_
                      refine q_callV (As := []) (rest := []) (z_dec zd_X8_players 43 rfl) zk_X8_91 zv_X7_isFull (c_X7_isFull (d - 1) (by omega) b Iv L 1 (z_Yd1 b)) rfl ⟨_, _, rfl⟩ rfl rfl (Nat.le_of_ble_eq_true rfl) (by omega) (n := 84) rfl ?_
                      show PW zm_X8_players d 84 [(5, .int (nI t56)), (4, .ref (42 + 2 * sh.toNatClampNeg)), (0, .ref 0), (1, .int sh), (2, .int v2), (3, .int n)] [.int (f_X7_isFull Iv 1)] SH (Iv, L, z_R b) 0 0 _
                      refine p_if_ne (z_dec zd_X8_players 44 rfl) (t := 171) (by decide) (n := 87) rfl (fun h84 => ?_) (fun h84 => ?_)
                      · refine p_iload (z_dec zd_X8_players 87 rfl) 0 rfl (n := 173) rfl ?_
                        exact p_iret (z_dec zd_X8_players 88 rfl) rfl ⟨(by (conv => rhs; unfold gx_X8_players_56); rw [if_neg h63, if_neg h74, if_neg h84]), rfl, (z_3 (by (conv => rhs; unfold gx_X8_players_56); rw [if_neg h63, if_neg h74, if_neg h84]) rfl)⟩
                      · have hfl := yq_full hlo h84
                        refine p_aload (z_dec zd_X8_players 45 rfl) 1 rfl (n := 89) rfl ?_
                        refine p_iload_n (z_dec zd_X8_players 46 rfl) rfl 4 rfl (n := 90) rfl ?_
                        refine q_callV (As := [.int v2]) (rest := []) (z_dec zd_X8_players 47 rfl) zk_X8_95 zv_X4_valueAt (c_X4_valueAt (d - 1) (by omega) b Iv L (42 + 2 * sh.toNatClampNeg) (z_SfOf b _ hj_sh.2) ((I (42 + 2 * sh.toNatClampNeg) 2).toNatClampNeg) hlo.2.2 ((hsl _ hj_sh.2).2) v2) (z_SfOf b _ hj_sh.2).1 ⟨_, _, rfl⟩ rfl rfl (Nat.le_of_ble_eq_true rfl) (by omega) (n := 93) rfl ?_
                        show PW zm_X8_players d 93 [(5, .int (nI t56)), (4, .ref (42 + 2 * sh.toNatClampNeg)), (0, .ref 0), (1, .int sh), (2, .int v2), (3, .int n)] [.long (f_X4_valueAt Iv L (42 + 2 * sh.toNatClampNeg) v2)] SH (Iv, L, z_R b) 0 0 _
                        refine p_l2i (z_dec zd_X8_players 48 rfl) (n := 94) rfl ?_
                        refine p_istore (z_dec zd_X8_players 49 rfl) (lv2 := [(6, .int ((f_X4_valueAt Iv L (42 + 2 * sh.toNatClampNeg) v2).toInt32)), (5, .int (nI t56)), (4, .ref (42 + 2 * sh.toNatClampNeg)), (0, .ref 0), (1, .int sh), (2, .int v2), (3, .int n)]) (by decide) rfl (n := 96) rfl ?_
                        refine p_aload (z_dec zd_X8_players 50 rfl) 2 rfl (n := 98) rfl ?_
                        refine p_iload_n (z_dec zd_X8_players 51 rfl) rfl 5 rfl (n := 99) rfl ?_
                        refine p_iconst (z_dec zd_X8_players 52 rfl) (v := 1) (by decide) (n := 100) rfl ?_
                        refine p_iadd (z_dec zd_X8_players 53 rfl) (n := 101) rfl ?_
                        refine q_callV (As := [.int (v2 + 1)]) (rest := []) (z_dec zd_X8_players 54 rfl) zk_X8_95 zv_X4_valueAt (c_X4_valueAt (d - 1) (by omega) b Iv L (42 + 2 * sh.toNatClampNeg) (z_SfOf b _ hj_sh.2) ((I (42 + 2 * sh.toNatClampNeg) 2).toNatClampNeg) hlo.2.2 ((hsl _ hj_sh.2).2) (v2 + 1)) (z_SfOf b _ hj_sh.2).1 ⟨_, _, rfl⟩ rfl rfl (Nat.le_of_ble_eq_true rfl) (by omega) (n := 104) rfl ?_
                        show PW zm_X8_players d 104 [(6, .int ((f_X4_valueAt Iv L (42 + 2 * sh.toNatClampNeg) v2).toInt32)), (5, .int (nI t56)), (4, .ref (42 + 2 * sh.toNatClampNeg)), (0, .ref 0), (1, .int sh), (2, .int v2), (3, .int n)] [.long (f_X4_valueAt Iv L (42 + 2 * sh.toNatClampNeg) (v2 + 1))] SH (Iv, L, z_R b) 0 0 _
                        refine p_l2i (z_dec zd_X8_players 55 rfl) (n := 105) rfl ?_
                        refine p_istore (z_dec zd_X8_players 56 rfl) (lv2 := [(7, .int ((f_X4_valueAt Iv L (42 + 2 * sh.toNatClampNeg) (v2 + 1)).toInt32)), (6, .int ((f_X4_valueAt Iv L (42 + 2 * sh.toNatClampNeg) v2).toInt32)), (5, .int (nI t56)), (4, .ref (42 + 2 * sh.toNatClampNeg)), (0, .ref 0), (1, .int sh), (2, .int v2), (3, .int n)]) (by decide) rfl (n := 107) rfl ?_
                        refine p_aload (z_dec zd_X8_players 57 rfl) 3 rfl (n := 109) rfl ?_
                        refine p_iload_n (z_dec zd_X8_players 58 rfl) rfl 6 rfl (n := 110) rfl ?_
                        refine p_iconst (z_dec zd_X8_players 59 rfl) (v := 2) (by decide) (n := 111) rfl ?_
                        refine p_iadd (z_dec zd_X8_players 60 rfl) (n := 112) rfl ?_
                        refine q_callV (As := [.int (v2 + 2)]) (rest := []) (z_dec zd_X8_players 61 rfl) zk_X8_95 zv_X4_valueAt (c_X4_valueAt (d - 1) (by omega) b Iv L (42 + 2 * sh.toNatClampNeg) (z_SfOf b _ hj_sh.2) ((I (42 + 2 * sh.toNatClampNeg) 2).toNatClampNeg) hlo.2.2 ((hsl _ hj_sh.2).2) (v2 + 2)) (z_SfOf b _ hj_sh.2).1 ⟨_, _, rfl⟩ rfl rfl (Nat.le_of_ble_eq_true rfl) (by omega) (n := 115) rfl ?_
                        show PW zm_X8_players d 115 [(7, .int ((f_X4_valueAt Iv L (42 + 2 * sh.toNatClampNeg) (v2 + 1)).toInt32)), (6, .int ((f_X4_valueAt Iv L (42 + 2 * sh.toNatClampNeg) v2).toInt32)), (5, .int (nI t56)), (4, .ref (42 + 2 * sh.toNatClampNeg)), (0, .ref 0), (1, .int sh), (2, .int v2), (3, .int n)] [.long (f_X4_valueAt Iv L (42 + 2 * sh.toNatClampNeg) (v2 + 2))] SH (Iv, L, z_R b) 0 0 _
                        refine p_l2i (z_dec zd_X8_players 62 rfl) (n := 116) rfl ?_
                        refine p_istore (z_dec zd_X8_players 63 rfl) (lv2 := [(8, .int ((f_X4_valueAt Iv L (42 + 2 * sh.toNatClampNeg) (v2 + 2)).toInt32)), (7, .int ((f_X4_valueAt Iv L (42 + 2 * sh.toNatClampNeg) (v2 + 1)).toInt32)), (6, .int ((f_X4_valueAt Iv L (42 + 2 * sh.toNatClampNeg) v2).toInt32)), (5, .int (nI t56)), (4, .ref (42 + 2 * sh.toNatClampNeg)), (0, .ref 0), (1, .int sh), (2, .int v2), (3, .int n)]) (by decide) rfl (n := 118) rfl ?_
                        refine p_iconst (z_dec zd_X8_players 64 rfl) (v := 0) (by decide) (n := 119) rfl ?_
                        refine p_iload (z_dec zd_X8_players 65 rfl) 2 rfl (n := 121) rfl ?_
                        refine q_callS (As := [.int 0, .int ((f_X4_valueAt Iv L (42 + 2 * sh.toNatClampNeg) v2).toInt32)]) (rest := []) (z_dec zd_X8_players 66 rfl) zk_X8_72 zs_X8_isWithin (c_X8_isWithin (d - 1) (by omega) b Iv L 0 ((f_X4_valueAt Iv L (42 + 2 * sh.toNatClampNeg) v2).toInt32)) rfl rfl (Nat.le_of_ble_eq_true rfl) (by omega) (n := 124) rfl ?_
                        show PW zm_X8_players d 124 [(8, .int ((f_X4_valueAt Iv L (42 + 2 * sh.toNatClampNeg) (v2 + 2)).toInt32)), (7, .int ((f_X4_valueAt Iv L (42 + 2 * sh.toNatClampNeg) (v2 + 1)).toInt32)), (6, .int ((f_X4_valueAt Iv L (42 + 2 * sh.toNatClampNeg) v2).toInt32)), (5, .int (nI t56)), (4, .ref (42 + 2 * sh.toNatClampNeg)), (0, .ref 0), (1, .int sh), (2, .int v2), (3, .int n)] [.int (f_X8_isWithin 0 ((f_X4_valueAt Iv L (42 + 2 * sh.toNatClampNeg) v2).toInt32))] SH (Iv, L, z_R b) 0 0 _
                        refine p_if_eq (z_dec zd_X8_players 67 rfl) (t := 171) (by decide) (n := 127) rfl (fun h124 => ?_) (fun h124 => ?_)
                        · refine p_iload (z_dec zd_X8_players 87 rfl) 3 rfl (n := 173) rfl ?_
                          exact p_iret (z_dec zd_X8_players 88 rfl) rfl ⟨(by (conv => rhs; unfold gx_X8_players_56); rw [if_neg h63, if_neg h74, if_pos h84, if_pos h124]), rfl, (z_3 (by (conv => rhs; unfold gx_X8_players_56); rw [if_neg h63, if_neg h74, if_pos h84, if_pos h124]) rfl)⟩
                        · refine p_iconst (z_dec zd_X8_players 68 rfl) (v := 1) (by decide) (n := 128) rfl ?_
                          refine p_iload (z_dec zd_X8_players 69 rfl) 1 rfl (n := 130) rfl ?_
                          refine q_callS (As := [.int 1, .int ((f_X4_valueAt Iv L (42 + 2 * sh.toNatClampNeg) (v2 + 1)).toInt32)]) (rest := []) (z_dec zd_X8_players 70 rfl) zk_X8_72 zs_X8_isWithin (c_X8_isWithin (d - 1) (by omega) b Iv L 1 ((f_X4_valueAt Iv L (42 + 2 * sh.toNatClampNeg) (v2 + 1)).toInt32)) rfl rfl (Nat.le_of_ble_eq_true rfl) (by omega) (n := 133) rfl ?_
                          show PW zm_X8_players d 133 [(8, .int ((f_X4_valueAt Iv L (42 + 2 * sh.toNatClampNeg) (v2 + 2)).toInt32)), (7, .int ((f_X4_valueAt Iv L (42 + 2 * sh.toNatClampNeg) (v2 + 1)).toInt32)), (6, .int ((f_X4_valueAt Iv L (42 + 2 * sh.toNatClampNeg) v2).toInt32)), (5, .int (nI t56)), (4, .ref (42 + 2 * sh.toNatClampNeg)), (0, .ref 0), (1, .int sh), (2, .int v2), (3, .int n)] [.int (f_X8_isWithin 1 ((f_X4_valueAt Iv L (42 + 2 * sh.toNatClampNeg) (v2 + 1)).toInt32))] SH (Iv, L, z_R b) 0 0 _
                          refine p_if_eq (z_dec zd_X8_players 71 rfl) (t := 171) (by decide) (n := 136) rfl (fun h133 => ?_) (fun h133 => ?_)
                          · refine p_iload (z_dec zd_X8_players 87 rfl) 3 rfl (n := 173) rfl ?_
                            exact p_iret (z_dec zd_X8_players 88 rfl) rfl ⟨(by (conv => rhs; unfold gx_X8_players_56); rw [if_neg h63, if_neg h74, if_pos h84, if_neg h124, if_pos h133]), rfl, (z_3 (by (conv => rhs; unfold gx_X8_players_56); rw [if_neg h63, if_neg h74, if_pos h84, if_neg h124, if_pos h133]) rfl)⟩
                          · refine p_iconst (z_dec zd_X8_players 72 rfl) (v := 2) (by decide) (n := 137) rfl ?_
                            refine p_iload (z_dec zd_X8_players 73 rfl) 0 rfl (n := 139) rfl ?_
                            refine q_callS (As := [.int 2, .int ((f_X4_valueAt Iv L (42 + 2 * sh.toNatClampNeg) (v2 + 2)).toInt32)]) (rest := []) (z_dec zd_X8_players 74 rfl) zk_X8_72 zs_X8_isWithin (c_X8_isWithin (d - 1) (by omega) b Iv L 2 ((f_X4_valueAt Iv L (42 + 2 * sh.toNatClampNeg) (v2 + 2)).toInt32)) rfl rfl (Nat.le_of_ble_eq_true rfl) (by omega) (n := 142) rfl ?_
                            show PW zm_X8_players d 142 [(8, .int ((f_X4_valueAt Iv L (42 + 2 * sh.toNatClampNeg) (v2 + 2)).toInt32)), (7, .int ((f_X4_valueAt Iv L (42 + 2 * sh.toNatClampNeg) (v2 + 1)).toInt32)), (6, .int ((f_X4_valueAt Iv L (42 + 2 * sh.toNatClampNeg) v2).toInt32)), (5, .int (nI t56)), (4, .ref (42 + 2 * sh.toNatClampNeg)), (0, .ref 0), (1, .int sh), (2, .int v2), (3, .int n)] [.int (f_X8_isWithin 2 ((f_X4_valueAt Iv L (42 + 2 * sh.toNatClampNeg) (v2 + 2)).toInt32))] SH (Iv, L, z_R b) 0 0 _
                            refine p_if_ne (z_dec zd_X8_players 75 rfl) (t := 148) (by decide) (n := 145) rfl (fun h142 => ?_) (fun h142 => ?_)
                            · refine p_aload_n (z_dec zd_X8_players 77 rfl) rfl 5 rfl (n := 149) rfl ?_
                              refine q_getR (z_dec zd_X8_players 78 rfl) zf_X8_10 (i := 1) rfl rfl (n := 152) rfl ?_
                              refine p_iload (z_dec zd_X8_players 79 rfl) 2 rfl (n := 154) rfl ?_
                              refine p_iload (z_dec zd_X8_players 80 rfl) 1 rfl (n := 156) rfl ?_
                              refine p_iload (z_dec zd_X8_players 81 rfl) 0 rfl (n := 158) rfl ?_
                              refine q_callV (As := [.int ((f_X4_valueAt Iv L (42 + 2 * sh.toNatClampNeg) v2).toInt32), .int ((f_X4_valueAt Iv L (42 + 2 * sh.toNatClampNeg) (v2 + 1)).toInt32), .int ((f_X4_valueAt Iv L (42 + 2 * sh.toNatClampNeg) (v2 + 2)).toInt32)]) (rest := []) (z_dec zd_X8_players 82 rfl) zk_X8_76 zv_X7_join (c_X7_join (d - 1) (by omega) b Iv L 1 (z_Yd1 b) (np + t56) hlo.1 hlo.2.1 ((f_X4_valueAt Iv L (42 + 2 * sh.toNatClampNeg) v2).toInt32) ((f_X4_valueAt Iv L (42 + 2 * sh.toNatClampNeg) (v2 + 1)).toInt32) ((f_X4_valueAt Iv L (42 + 2 * sh.toNatClampNeg) (v2 + 2)).toInt32)) rfl ⟨_, _, rfl⟩ rfl rfl (Nat.le_of_ble_eq_true rfl) (by omega) (n := 161) rfl ?_
                              show PW zm_X8_players d 161 [(8, .int ((f_X4_valueAt Iv L (42 + 2 * sh.toNatClampNeg) (v2 + 2)).toInt32)), (7, .int ((f_X4_valueAt Iv L (42 + 2 * sh.toNatClampNeg) (v2 + 1)).toInt32)), (6, .int ((f_X4_valueAt Iv L (42 + 2 * sh.toNatClampNeg) v2).toInt32)), (5, .int (nI t56)), (4, .ref (42 + 2 * sh.toNatClampNeg)), (0, .ref 0), (1, .int sh), (2, .int v2), (3, .int n)] [.int (f_X7_join Iv 1 (np + t56) ((f_X4_valueAt Iv L (42 + 2 * sh.toNatClampNeg) v2).toInt32) ((f_X4_valueAt Iv L (42 + 2 * sh.toNatClampNeg) (v2 + 1)).toInt32) ((f_X4_valueAt Iv L (42 + 2 * sh.toNatClampNeg) (v2 + 2)).toInt32))] SH ((m_X7_join Iv 1 (np + t56) ((f_X4_valueAt Iv L (42 + 2 * sh.toNatClampNeg) v2).toInt32) ((f_X4_valueAt Iv L (42 + 2 * sh.toNatClampNeg) (v2 + 1)).toInt32) ((f_X4_valueAt Iv L (42 + 2 * sh.toNatClampNeg) (v2 + 2)).toInt32)), L, z_R b) 0 0 _
                              refine p_pop (z_dec zd_X8_players 83 rfl) rfl (n := 162) rfl ?_
                              refine p_iinc (z_dec zd_X8_players 84 rfl) 3 rfl (v := (nI (t56 + 1))) (nI_1 _) (lv2 := [(5, .int (nI (t56 + 1))), (8, .int ((f_X4_valueAt Iv L (42 + 2 * sh.toNatClampNeg) (v2 + 2)).toInt32)), (7, .int ((f_X4_valueAt Iv L (42 + 2 * sh.toNatClampNeg) (v2 + 1)).toInt32)), (6, .int ((f_X4_valueAt Iv L (42 + 2 * sh.toNatClampNeg) v2).toInt32)), (4, .ref (42 + 2 * sh.toNatClampNeg)), (0, .ref 0), (1, .int sh), (2, .int v2), (3, .int n)]) (by decide) rfl (n := 165) rfl ?_
                              refine p_iinc (z_dec zd_X8_players 85 rfl) 7 rfl (v := (v2 + 3)) rfl (lv2 := [(2, .int (v2 + 3)), (5, .int (nI (t56 + 1))), (8, .int ((f_X4_valueAt Iv L (42 + 2 * sh.toNatClampNeg) (v2 + 2)).toInt32)), (7, .int ((f_X4_valueAt Iv L (42 + 2 * sh.toNatClampNeg) (v2 + 1)).toInt32)), (6, .int ((f_X4_valueAt Iv L (42 + 2 * sh.toNatClampNeg) v2).toInt32)), (4, .ref (42 + 2 * sh.toNatClampNeg)), (0, .ref 0), (1, .int sh), (3, .int n)]) (by decide) rfl (n := 168) rfl ?_
                              refine p_goto (z_dec zd_X8_players 86 rfl) (t := 56) (by decide) ?_
                              refine z_sub (lv' := [(5, .int (nI (t56 + 1))), (4, .ref (42 + 2 * sh.toNatClampNeg)), (0, .ref 0), (1, .int sh), (2, .int (v2 + 3)), (3, .int n)]) [1, 5, 6, 7, 0, 8] rfl ?_
                              rw [show gx_X8_players_56 L np sh (r56 + 1) t56 v2 Iv = gx_X8_players_56 L np sh r56 (t56 + 1) (v2 + 3) (m_X7_join Iv 1 (np + t56) ((f_X4_valueAt Iv L (42 + 2 * sh.toNatClampNeg) v2).toInt32) ((f_X4_valueAt Iv L (42 + 2 * sh.toNatClampNeg) (v2 + 1)).toInt32) ((f_X4_valueAt Iv L (42 + 2 * sh.toNatClampNeg) (v2 + 2)).toInt32)) from by (conv => lhs; unfold gx_X8_players_56); rw [if_neg h63, if_neg h74, if_pos h84, if_neg h124, if_neg h133, if_neg h142]]
                              exact ih56 (t56 + 1) (v2 + 3) (m_X7_join Iv 1 (np + t56) ((f_X4_valueAt Iv L (42 + 2 * sh.toNatClampNeg) v2).toInt32) ((f_X4_valueAt Iv L (42 + 2 * sh.toNatClampNeg) (v2 + 1)).toInt32) ((f_X4_valueAt Iv L (42 + 2 * sh.toNatClampNeg) (v2 + 2)).toInt32)) (by omega) (yq_jn (by omega) hlo h84 _ _ _)
                            · refine p_goto (z_dec zd_X8_players 76 rfl) (t := 171) (by decide) ?_
                              refine p_iload (z_dec zd_X8_players 87 rfl) 3 rfl (n := 173) rfl ?_
                              exact p_iret (z_dec zd_X8_players 88 rfl) rfl ⟨(by (conv => rhs; unfold gx_X8_players_56); rw [if_neg h63, if_neg h74, if_pos h84, if_neg h124, if_neg h133, if_pos h142]), rfl, (z_3 (by (conv => rhs; unfold gx_X8_players_56); rw [if_neg h63, if_neg h74, if_pos h84, if_neg h124, if_neg h133, if_pos h142]) rfl)⟩
            exact (by have q := (hL56 n.toNatClampNeg 0 i I (by omega) ⟨hnp, hn10, (hsl _ hj_sh.2).1⟩); (rw [show f_X8_players I L np sh i n = _ from by unfold f_X8_players; rw [if_neg h4, if_neg h9, if_pos h15, if_pos h34]]); (rw [show m_X8_players I L np sh i n = _ from by unfold m_X8_players; rw [if_neg h4, if_neg h9, if_pos h15, if_pos h34]]); exact q)
          · refine p_aload (z_dec zd_X8_players 20 rfl) 0 rfl (n := 39) rfl ?_
            refine q_getI (z_dec zd_X8_players 21 rfl) zf_X8_84 (by decide) (z_SfOf b _ hj_sh.2).1 (v := (I (42 + 2 * sh.toNatClampNeg) 0)) rfl (n := 42) rfl ?_
            refine p_iconst (z_dec zd_X8_players 22 rfl) (v := (-1)) (by decide) (n := 43) rfl ?_
            refine p_icmp_ne (z_dec zd_X8_players 23 rfl) (t := 50) (by decide) (n := 46) rfl (fun h43 => ?_) (fun h43 => ?_)
            · refine p_bipush (z_dec zd_X8_players 26 rfl) (v := (-12)) (by decide) (n := 52) rfl ?_
              exact p_iret (z_dec zd_X8_players 27 rfl) rfl ⟨(by unfold f_X8_players; rw [if_neg h4, if_neg h9, if_pos h15, if_neg h34, if_neg h43]), rfl, (z_3 (by unfold m_X8_players; rw [if_neg h4, if_neg h9, if_pos h15, if_neg h34, if_neg h43]) rfl)⟩
            · refine p_iconst (z_dec zd_X8_players 24 rfl) (v := 0) (by decide) (n := 47) rfl ?_
              refine p_goto (z_dec zd_X8_players 25 rfl) (t := 52) (by decide) ?_
              exact p_iret (z_dec zd_X8_players 27 rfl) rfl ⟨(by unfold f_X8_players; rw [if_neg h4, if_neg h9, if_pos h15, if_neg h34, if_pos h43]), rfl, (z_3 (by unfold m_X8_players; rw [if_neg h4, if_neg h9, if_pos h15, if_neg h34, if_pos h43]) rfl)⟩
        · refine p_iconst (z_dec zd_X8_players 9 rfl) (v := (-1)) (by decide) (n := 19) rfl ?_
          exact p_iret (z_dec zd_X8_players 10 rfl) rfl ⟨(by unfold f_X8_players; rw [if_neg h4, if_neg h9, if_neg h15]), rfl, (z_3 (by unfold m_X8_players; rw [if_neg h4, if_neg h9, if_neg h15]) rfl)⟩
  exact hentry
