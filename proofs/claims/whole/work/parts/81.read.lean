theorem yq_p2 {t : Nat} (h : t < 10) : 2 ^ t ≤ 512 := Nat.pow_le_pow_right (n := 2) (by decide) (show t ≤ 9 by omega)
theorem yq_or {a t : Nat} (h : a < 2 ^ t) : a ||| 2 ^ t = a + 2 ^ t := by
  have e := Nat.two_pow_add_eq_or_of_lt h 1
  rw [Nat.mul_one] at e
  rw [Nat.or_comm, ← e, Nat.add_comm]
theorem yq_grp {a t : Nat} (ht : t < 10) (h : a < 2 ^ t) : nI a ||| ((1 : Int32) <<< (nI t &&& 31)) = nI (a + 2 ^ t) := by rw [z_shl1 t (by omega), fa_or, yq_or h]
theorem yq_all {np : Nat} (h : np ≤ 10) : ((1 : Int32) <<< (nI np &&& 31)) - 1 = nI (2 ^ np - 1) ∧ 2 ^ np - 1 < 1024 := by
  rw [z_shl1 np (by omega)]
  have h1 : 1 ≤ 2 ^ np := Nat.one_le_two_pow
  have h2 : 2 ^ np ≤ 2 ^ 10 := Nat.pow_le_pow_right (by decide) h
  refine ⟨pk_sub (b := 1) h1, ?_⟩
  have e : (2 : Nat) ^ 10 = 1024 := rfl
  omega
/-- the results' players; the yard's and the row's length -/
def yq_W (np : Nat) (I : Nat → Nat → Int32) : Prop := I 26 0 = nI np
def yq_R (np k len : Nat) (I : Nat → Nat → Int32) : Prop := I 1 0 = nI np ∧ I k 2 = nI len
theorem yq_Ru {np k len : Nat} {I : Nat → Nat → Int32} (hk : 42 ≤ k) (h : yq_R np k len I) {c : Nat} (h1 : c ≠ 1) (h2 : c < 42) (j : Nat) (v : Int32) : yq_R np k len (z_up I c j v) := ⟨(z_up_k _ _ (fun q => h1 q.symm)).trans h.1, (z_up_k _ _ (by omega)).trans h.2⟩
theorem yq_Wu {np : Nat} {I : Nat → Nat → Int32} (h : yq_W np I) {c : Nat} (h1 : c ≠ 26) (j : Nat) (v : Int32) : yq_W np (z_up I c j v) := (z_up_k _ _ (fun q => h1 q.symm)).trans h
theorem yq_an {x : Int32} (h : x = nI x.toNatClampNeg ∧ x.toNatClampNeg < 1024) (y : Int32) : (x &&& y) = nI (x &&& y).toNatClampNeg ∧ (x &&& y).toNatClampNeg < 1024 := by
  have e := h.1
  have g := z_andN (g := x.toNatClampNeg) (by omega) y
  rw [← e] at g
  exact ⟨g.1, Nat.lt_of_le_of_lt g.2 h.2⟩
def gw_X2_read_10  : Nat → Nat → (Nat → Nat → Int32) → (Nat → Nat → Int64) → (Nat → Nat → Int32) × (Nat → Nat → Int64)
  | 0, t10, Iw10, Lw10 => (Iw10, Lw10)
  | r10 + 1, t10, Iw10, Lw10 => gw_X2_read_10 r10 (t10 + 1) (z_up Iw10 27 t10 0) (z_up Lw10 28 t10 0)

theorem yq_Rg10 {np k len : Nat} (hk : 42 ≤ k) {I : Nat → Nat → Int32} (h : yq_R np k len I) : ∀ (r t : Nat) (L : Nat → Nat → Int64), yq_R np k len (gw_X2_read_10 r t I L).1
  | 0, t, L => h
  | r + 1, t, L => by
    unfold gw_X2_read_10
    exact yq_Rg10 hk (yq_Ru hk h (by decide) (by decide) _ _) r (t + 1) _
def gx_X2_read_38 (k : Nat) : Nat → Nat → (Nat → Nat → Int32) → (Nat → Nat → Int64) → (Nat → Nat → Int32) × (Nat → Nat → Int64)
  | 0, t38, Iv, Lv => (Iv, Lv)
  | r38 + 1, t38, Iv, Lv => if (Iv k 2) < ((nI (2 * t38)) + 2) then (Iv, Lv) else if (f_X7_has Iv 1 ((f_X4_valueAt Iv Lv k (nI (2 * t38))).toInt32)) = 0 then gx_X2_read_38 k r38 (t38 + 1) Iv Lv else if (f_X7_has Iv 1 ((f_X4_valueAt Iv Lv k ((nI (2 * t38)) + 1)).toInt32)) = 0 then gx_X2_read_38 k r38 (t38 + 1) Iv Lv else if ((f_X4_valueAt Iv Lv k (nI (2 * t38))).toInt32) = ((f_X4_valueAt Iv Lv k ((nI (2 * t38)) + 1)).toInt32) then gx_X2_read_38 k r38 (t38 + 1) Iv Lv else gx_X2_read_38 k r38 (t38 + 1) (z_up Iv 27 (((f_X4_valueAt Iv Lv k (nI (2 * t38))).toInt32).toNatClampNeg) ((Iv 27 (((f_X4_valueAt Iv Lv k (nI (2 * t38))).toInt32).toNatClampNeg)) ||| ((1 : Int32) <<< (((f_X4_valueAt Iv Lv k ((nI (2 * t38)) + 1)).toInt32) &&& 31)))) (z_up Lv 28 (((f_X4_valueAt Iv Lv k (nI (2 * t38))).toInt32).toNatClampNeg) ((Lv 28 (((f_X4_valueAt Iv Lv k (nI (2 * t38))).toInt32).toNatClampNeg)) + ((1 : Int64) <<< ((6 * ((f_X4_valueAt Iv Lv k ((nI (2 * t38)) + 1)).toInt32)).toInt64 &&& 63))))
def m_X2_read (I : Nat → Nat → Int32) (L : Nat → Nat → Int64) (np : Nat) (k : Nat) : Nat → Nat → Int32 := (gx_X2_read_38 k 20 0 ((gw_X2_read_10 10 0 (z_up I 26 0 (nI np)) L).1) ((gw_X2_read_10 10 0 (z_up I 26 0 (nI np)) L).2)).1
def n_X2_read (I : Nat → Nat → Int32) (L : Nat → Nat → Int64) (np : Nat) (k : Nat) : Nat → Nat → Int64 := (gx_X2_read_38 k 20 0 ((gw_X2_read_10 10 0 (z_up I 26 0 (nI np)) L).1) ((gw_X2_read_10 10 0 (z_up I 26 0 (nI np)) L).2)).2
set_option maxHeartbeats 1000000 in
set_option maxRecDepth 100000 in
theorem c_X2_read (d : Nat) (hd : 2 ≤ d) (b : Bool) (I : Nat → Nat → Int32) (L : Nat → Nat → Int64) (np : Nat) (hn10 : np ≤ 10) (k : Nat) (hs : z_Sf b k) (hk42 : 42 ≤ k) (len : Nat) (hl60 : len ≤ 60) (hR : yq_R np k len I) : z_CT zm_X2_read d [.ref 26, .ref k, .ref 1] SH (I, L, z_R b) 0 0 (z_ret (none) ((m_X2_read I L np k), (n_X2_read I L np k), z_R b)) := by
  refine z_enter (by decide +kernel) (Nat.le_of_ble_eq_true rfl) ?_
  have hentry : PW zm_X2_read d 0 [(0, .ref 26), (1, .ref k), (2, .ref 1)] [] SH (I, L, z_R b) 0 0 (z_ret (none) ((m_X2_read I L np k), (n_X2_read I L np k), z_R b)) := by
    refine p_aload_n (z_dec zd_X2_read 0 rfl) rfl 0 rfl (n := 1) rfl ?_
    refine p_aload_n (z_dec zd_X2_read 1 rfl) rfl 2 rfl (n := 2) rfl ?_
    refine q_getI (z_dec zd_X2_read 2 rfl) zf_X2_29 (by decide) rfl (v := (nI np)) hR.1 (n := 5) rfl ?_
    refine q_putI (z_dec zd_X2_read 3 rfl) zp_X2_9 (fun q => by cases q) rfl (n := 8) rfl ?_
    have hP8 : yq_R np k len ((z_up I 26 0 (nI np))) := yq_Ru hk42 hR (by decide) (by decide) _ _
    refine p_iconst (z_dec zd_X2_read 4 rfl) (v := 0) (by decide) (n := 9) rfl ?_
    refine p_istore_n (z_dec zd_X2_read 5 rfl) rfl (lv2 := [(3, .int 0), (0, .ref 26), (1, .ref k), (2, .ref 1)]) (by decide) rfl (n := 10) rfl ?_
    have hL10 : ∀ (r10 t10 : Nat) (Iw10 : (Nat → Nat → Int32)) (Lw10 : (Nat → Nat → Int64)), t10 + r10 = 10 → yq_R np k len Iw10 → PW zm_X2_read d 36 [(0, .ref 26), (1, .ref k), (2, .ref 1)] [] SH ((gw_X2_read_10 r10 t10 Iw10 Lw10).1, (gw_X2_read_10 r10 t10 Iw10 Lw10).2, z_R b) 0 0 (z_ret (none) ((m_X2_read I L np k), (n_X2_read I L np k), z_R b)) → PW zm_X2_read d 10 [(3, .int (nI t10)), (0, .ref 26), (1, .ref k), (2, .ref 1)] [] SH (Iw10, Lw10, z_R b) 0 0 (z_ret (none) ((m_X2_read I L np k), (n_X2_read I L np k), z_R b)) := by
      intro r10
      induction r10 with
      | zero =>
        intro t10 Iw10 Lw10 ht10 hlo hk10
        refine p_iload_n (z_dec zd_X2_read 6 rfl) rfl 0 rfl (n := 11) rfl ?_
        refine p_bipush (z_dec zd_X2_read 7 rfl) (v := 10) (by decide) (n := 13) rfl ?_
        refine p_icmp_ge (z_dec zd_X2_read 8 rfl) (t := 36) (by decide) (n := 16) rfl (fun h13 => ?_) (fun h13 => ?_)
        · refine z_sub (lv' := [(0, .ref 26), (1, .ref k), (2, .ref 1)]) [1, 2, 3] rfl ?_
          rw [show (gw_X2_read_10 0 t10 Iw10 Lw10) = (Iw10, Lw10) from by rfl] at hk10
          exact hk10
        · exact absurd (z_nge (a := 10) h13) (by omega)
      | succ r10 ih10 =>
        intro t10 Iw10 Lw10 ht10 hlo hk10
        refine p_iload_n (z_dec zd_X2_read 6 rfl) rfl 0 rfl (n := 11) rfl ?_
        refine p_bipush (z_dec zd_X2_read 7 rfl) (v := 10) (by decide) (n := 13) rfl ?_
        refine p_icmp_ge (z_dec zd_X2_read 8 rfl) (t := 36) (by decide) (n := 16) rfl (fun h13 => ?_) (fun h13 => ?_)
        · exact absurd (z_ge (a := 10) h13) (by omega)
        · have hx10 : t10 < 10 := by omega
          refine p_aload_n (z_dec zd_X2_read 9 rfl) rfl 1 rfl (n := 17) rfl ?_
          refine q_getR (z_dec zd_X2_read 10 rfl) zf_X2_15 (i := 27) rfl rfl (n := 20) rfl ?_
          refine p_iload_n (z_dec zd_X2_read 11 rfl) rfl 0 rfl (n := 21) rfl ?_
          refine p_iconst (z_dec zd_X2_read 12 rfl) (v := 0) (by decide) (n := 22) rfl ?_
          refine q_iast (z_dec zd_X2_read 13 rfl) rfl (by decide) (t10) rfl (by omega) (n := 23) rfl ?_
          refine p_aload_n (z_dec zd_X2_read 14 rfl) rfl 1 rfl (n := 24) rfl ?_
          refine q_getR (z_dec zd_X2_read 15 rfl) zf_X2_19 (i := 28) rfl rfl (n := 27) rfl ?_
          refine p_iload_n (z_dec zd_X2_read 16 rfl) rfl 0 rfl (n := 28) rfl ?_
          refine p_lconst (z_dec zd_X2_read 17 rfl) (v := 0) (by decide) (n := 29) rfl ?_
          refine q_last (z_dec zd_X2_read 18 rfl) rfl (by decide) (t10) rfl (by omega) (n := 30) rfl ?_
          refine p_iinc (z_dec zd_X2_read 19 rfl) 0 rfl (v := (nI (t10 + 1))) (nI_1 _) (lv2 := [(3, .int (nI (t10 + 1))), (0, .ref 26), (1, .ref k), (2, .ref 1)]) (by decide) rfl (n := 33) rfl ?_
          refine p_goto (z_dec zd_X2_read 20 rfl) (t := 10) (by decide) ?_
          rw [show gw_X2_read_10 (r10 + 1) t10 Iw10 Lw10 = gw_X2_read_10 r10 (t10 + 1) (z_up Iw10 27 t10 0) (z_up Lw10 28 t10 0) from by rfl] at hk10
          exact ih10 (t10 + 1) (z_up Iw10 27 t10 0) (z_up Lw10 28 t10 0) (by omega) (yq_Ru hk42 hlo (by decide) (by decide) _ _) hk10
    refine hL10 10 0 (z_up I 26 0 (nI np)) L (by omega) hP8 ?_
    have hP36 : yq_R np k len ((gw_X2_read_10 10 0 (z_up I 26 0 (nI np)) L).1) := yq_Rg10 hk42 hP8 10 0 L
    refine p_iconst (z_dec zd_X2_read 21 rfl) (v := 0) (by decide) (n := 37) rfl ?_
    refine p_istore_n (z_dec zd_X2_read 22 rfl) rfl (lv2 := [(3, .int 0), (0, .ref 26), (1, .ref k), (2, .ref 1)]) (by decide) rfl (n := 38) rfl ?_
    have hL38 : ∀ (r38 t38 : Nat) (Iv : Nat → Nat → Int32) (Lv : Nat → Nat → Int64), t38 + r38 = 20 → yq_R np k len Iv → PW zm_X2_read d 38 [(3, .int (nI (2 * t38))), (0, .ref 26), (1, .ref k), (2, .ref 1)] [] SH (Iv, Lv, z_R b) 0 0 (z_ret (none) ((gx_X2_read_38 k r38 t38 Iv Lv).1, (gx_X2_read_38 k r38 t38 Iv Lv).2, z_R b)) := by
      intro r38
      induction r38 with
      | zero =>
        intro t38 Iv Lv ht38 hlo
        refine p_iload_n (z_dec zd_X2_read 23 rfl) rfl 0 rfl (n := 39) rfl ?_
        refine p_bipush (z_dec zd_X2_read 24 rfl) (v := 40) (by decide) (n := 41) rfl ?_
        refine p_icmp_ge (z_dec zd_X2_read 25 rfl) (t := 134) (by decide) (n := 44) rfl (fun h41 => ?_) (fun h41 => ?_)
        · exact p_vret (z_dec zd_X2_read 79 rfl) rfl ⟨rfl, rfl, (z_3 rfl rfl)⟩
        · exact absurd (z_nge (a := 40) h41) (by omega)
      | succ r38 ih38 =>
        intro t38 Iv Lv ht38 hlo
        refine p_iload_n (z_dec zd_X2_read 23 rfl) rfl 0 rfl (n := 39) rfl ?_
        refine p_bipush (z_dec zd_X2_read 24 rfl) (v := 40) (by decide) (n := 41) rfl ?_
        refine p_icmp_ge (z_dec zd_X2_read 25 rfl) (t := 134) (by decide) (n := 44) rfl (fun h41 => ?_) (fun h41 => ?_)
        · exact absurd (z_ge (a := 40) h41) (by omega)
        · have hx38 : t38 < 20 := by omega
          refine p_iload_n (z_dec zd_X2_read 26 rfl) rfl 0 rfl (n := 45) rfl ?_
          refine p_iconst (z_dec zd_X2_read 27 rfl) (v := 2) (by decide) (n := 46) rfl ?_
          refine p_iadd (z_dec zd_X2_read 28 rfl) (n := 47) rfl ?_
          refine p_aload_n (z_dec zd_X2_read 29 rfl) rfl 2 rfl (n := 48) rfl ?_
          refine q_getI (z_dec zd_X2_read 30 rfl) zf_X2_32 (by decide) hs.1 (v := (Iv k 2)) rfl (n := 51) rfl ?_
          refine p_icmp_gt (z_dec zd_X2_read 31 rfl) (t := 134) (by decide) (n := 54) rfl (fun h51 => ?_) (fun h51 => ?_)
          · exact p_vret (z_dec zd_X2_read 79 rfl) rfl ⟨rfl, rfl, (z_3 (by (conv => rhs; unfold gx_X2_read_38); rw [if_pos h51]) (by (conv => rhs; unfold gx_X2_read_38); rw [if_pos h51]))⟩
          · refine p_aload_n (z_dec zd_X2_read 32 rfl) rfl 2 rfl (n := 55) rfl ?_
            refine p_iload_n (z_dec zd_X2_read 33 rfl) rfl 0 rfl (n := 56) rfl ?_
            refine q_callV (As := [.int (nI (2 * t38))]) (rest := []) (z_dec zd_X2_read 34 rfl) zk_X2_37 zv_X4_valueAt (c_X4_valueAt (d - 1) (by omega) b Iv Lv k hs len hlo.2 hl60 (nI (2 * t38))) hs.1 ⟨_, _, rfl⟩ rfl rfl (Nat.le_of_ble_eq_true rfl) (by omega) (n := 59) rfl ?_
            show PW zm_X2_read d 59 [(3, .int (nI (2 * t38))), (0, .ref 26), (1, .ref k), (2, .ref 1)] [.long (f_X4_valueAt Iv Lv k (nI (2 * t38)))] SH (Iv, Lv, z_R b) 0 0 _
            refine p_l2i (z_dec zd_X2_read 35 rfl) (n := 60) rfl ?_
            refine p_istore (z_dec zd_X2_read 36 rfl) (lv2 := [(4, .int ((f_X4_valueAt Iv Lv k (nI (2 * t38))).toInt32)), (3, .int (nI (2 * t38))), (0, .ref 26), (1, .ref k), (2, .ref 1)]) (by decide) rfl (n := 62) rfl ?_
            refine p_aload_n (z_dec zd_X2_read 37 rfl) rfl 3 rfl (n := 63) rfl ?_
            refine p_iload_n (z_dec zd_X2_read 38 rfl) rfl 1 rfl (n := 64) rfl ?_
            refine p_iconst (z_dec zd_X2_read 39 rfl) (v := 1) (by decide) (n := 65) rfl ?_
            refine p_iadd (z_dec zd_X2_read 40 rfl) (n := 66) rfl ?_
            refine q_callV (As := [.int ((nI (2 * t38)) + 1)]) (rest := []) (z_dec zd_X2_read 41 rfl) zk_X2_37 zv_X4_valueAt (c_X4_valueAt (d - 1) (by omega) b Iv Lv k hs len hlo.2 hl60 ((nI (2 * t38)) + 1)) hs.1 ⟨_, _, rfl⟩ rfl rfl (Nat.le_of_ble_eq_true rfl) (by omega) (n := 69) rfl ?_
            show PW zm_X2_read d 69 [(4, .int ((f_X4_valueAt Iv Lv k (nI (2 * t38))).toInt32)), (3, .int (nI (2 * t38))), (0, .ref 26), (1, .ref k), (2, .ref 1)] [.long (f_X4_valueAt Iv Lv k ((nI (2 * t38)) + 1))] SH (Iv, Lv, z_R b) 0 0 _
            refine p_l2i (z_dec zd_X2_read 42 rfl) (n := 70) rfl ?_
            refine p_istore (z_dec zd_X2_read 43 rfl) (lv2 := [(5, .int ((f_X4_valueAt Iv Lv k ((nI (2 * t38)) + 1)).toInt32)), (4, .int ((f_X4_valueAt Iv Lv k (nI (2 * t38))).toInt32)), (3, .int (nI (2 * t38))), (0, .ref 26), (1, .ref k), (2, .ref 1)]) (by decide) rfl (n := 72) rfl ?_
            refine p_aload_n (z_dec zd_X2_read 44 rfl) rfl 5 rfl (n := 73) rfl ?_
            refine p_iload (z_dec zd_X2_read 45 rfl) 1 rfl (n := 75) rfl ?_
            refine q_callV (As := [.int ((f_X4_valueAt Iv Lv k (nI (2 * t38))).toInt32)]) (rest := []) (z_dec zd_X2_read 46 rfl) zk_X2_41 zv_X7_has (c_X7_has (d - 1) (by omega) b Iv Lv 1 (z_Yd1 b) ((f_X4_valueAt Iv Lv k (nI (2 * t38))).toInt32)) rfl ⟨_, _, rfl⟩ rfl rfl (Nat.le_of_ble_eq_true rfl) (by omega) (n := 78) rfl ?_
            show PW zm_X2_read d 78 [(5, .int ((f_X4_valueAt Iv Lv k ((nI (2 * t38)) + 1)).toInt32)), (4, .int ((f_X4_valueAt Iv Lv k (nI (2 * t38))).toInt32)), (3, .int (nI (2 * t38))), (0, .ref 26), (1, .ref k), (2, .ref 1)] [.int (f_X7_has Iv 1 ((f_X4_valueAt Iv Lv k (nI (2 * t38))).toInt32))] SH (Iv, Lv, z_R b) 0 0 _
            refine p_if_eq (z_dec zd_X2_read 47 rfl) (t := 128) (by decide) (n := 81) rfl (fun h78 => ?_) (fun h78 => ?_)
            · refine p_iinc (z_dec zd_X2_read 77 rfl) 2 rfl (v := (nI (2 * (t38 + 1)))) (z_addE (a := 2 * t38) (b := 2) rfl rfl) (lv2 := [(3, .int (nI (2 * (t38 + 1)))), (5, .int ((f_X4_valueAt Iv Lv k ((nI (2 * t38)) + 1)).toInt32)), (4, .int ((f_X4_valueAt Iv Lv k (nI (2 * t38))).toInt32)), (0, .ref 26), (1, .ref k), (2, .ref 1)]) (by decide) rfl (n := 131) rfl ?_
              refine p_goto (z_dec zd_X2_read 78 rfl) (t := 38) (by decide) ?_
              refine z_sub (lv' := [(3, .int (nI (2 * (t38 + 1)))), (0, .ref 26), (1, .ref k), (2, .ref 1)]) [0, 3, 4, 5] rfl ?_
              rw [show gx_X2_read_38 k (r38 + 1) t38 Iv Lv = gx_X2_read_38 k r38 (t38 + 1) Iv Lv from by (conv => lhs; unfold gx_X2_read_38); rw [if_neg h51, if_pos h78]]
              exact ih38 (t38 + 1) Iv Lv (by omega) hlo
            · have hj1 := z_has hlo.1 hn10 h78
              refine p_aload_n (z_dec zd_X2_read 48 rfl) rfl 5 rfl (n := 82) rfl ?_
              refine p_iload (z_dec zd_X2_read 49 rfl) 0 rfl (n := 84) rfl ?_
              refine q_callV (As := [.int ((f_X4_valueAt Iv Lv k ((nI (2 * t38)) + 1)).toInt32)]) (rest := []) (z_dec zd_X2_read 50 rfl) zk_X2_41 zv_X7_has (c_X7_has (d - 1) (by omega) b Iv Lv 1 (z_Yd1 b) ((f_X4_valueAt Iv Lv k ((nI (2 * t38)) + 1)).toInt32)) rfl ⟨_, _, rfl⟩ rfl rfl (Nat.le_of_ble_eq_true rfl) (by omega) (n := 87) rfl ?_
              show PW zm_X2_read d 87 [(5, .int ((f_X4_valueAt Iv Lv k ((nI (2 * t38)) + 1)).toInt32)), (4, .int ((f_X4_valueAt Iv Lv k (nI (2 * t38))).toInt32)), (3, .int (nI (2 * t38))), (0, .ref 26), (1, .ref k), (2, .ref 1)] [.int (f_X7_has Iv 1 ((f_X4_valueAt Iv Lv k ((nI (2 * t38)) + 1)).toInt32))] SH (Iv, Lv, z_R b) 0 0 _
              refine p_if_eq (z_dec zd_X2_read 51 rfl) (t := 128) (by decide) (n := 90) rfl (fun h87 => ?_) (fun h87 => ?_)
              · refine p_iinc (z_dec zd_X2_read 77 rfl) 2 rfl (v := (nI (2 * (t38 + 1)))) (z_addE (a := 2 * t38) (b := 2) rfl rfl) (lv2 := [(3, .int (nI (2 * (t38 + 1)))), (5, .int ((f_X4_valueAt Iv Lv k ((nI (2 * t38)) + 1)).toInt32)), (4, .int ((f_X4_valueAt Iv Lv k (nI (2 * t38))).toInt32)), (0, .ref 26), (1, .ref k), (2, .ref 1)]) (by decide) rfl (n := 131) rfl ?_
                refine p_goto (z_dec zd_X2_read 78 rfl) (t := 38) (by decide) ?_
                refine z_sub (lv' := [(3, .int (nI (2 * (t38 + 1)))), (0, .ref 26), (1, .ref k), (2, .ref 1)]) [0, 3, 4, 5] rfl ?_
                rw [show gx_X2_read_38 k (r38 + 1) t38 Iv Lv = gx_X2_read_38 k r38 (t38 + 1) Iv Lv from by (conv => lhs; unfold gx_X2_read_38); rw [if_neg h51, if_neg h78, if_pos h87]]
                exact ih38 (t38 + 1) Iv Lv (by omega) hlo
              · have hj2 := z_has hlo.1 hn10 h87
                refine p_iload (z_dec zd_X2_read 52 rfl) 1 rfl (n := 92) rfl ?_
                refine p_iload (z_dec zd_X2_read 53 rfl) 0 rfl (n := 94) rfl ?_
                refine p_icmp_eq (z_dec zd_X2_read 54 rfl) (t := 128) (by decide) (n := 97) rfl (fun h94 => ?_) (fun h94 => ?_)
                · refine p_iinc (z_dec zd_X2_read 77 rfl) 2 rfl (v := (nI (2 * (t38 + 1)))) (z_addE (a := 2 * t38) (b := 2) rfl rfl) (lv2 := [(3, .int (nI (2 * (t38 + 1)))), (5, .int ((f_X4_valueAt Iv Lv k ((nI (2 * t38)) + 1)).toInt32)), (4, .int ((f_X4_valueAt Iv Lv k (nI (2 * t38))).toInt32)), (0, .ref 26), (1, .ref k), (2, .ref 1)]) (by decide) rfl (n := 131) rfl ?_
                  refine p_goto (z_dec zd_X2_read 78 rfl) (t := 38) (by decide) ?_
                  refine z_sub (lv' := [(3, .int (nI (2 * (t38 + 1)))), (0, .ref 26), (1, .ref k), (2, .ref 1)]) [0, 3, 4, 5] rfl ?_
                  rw [show gx_X2_read_38 k (r38 + 1) t38 Iv Lv = gx_X2_read_38 k r38 (t38 + 1) Iv Lv from by (conv => lhs; unfold gx_X2_read_38); rw [if_neg h51, if_neg h78, if_neg h87, if_pos h94]]
                  exact ih38 (t38 + 1) Iv Lv (by omega) hlo
                · refine p_aload_n (z_dec zd_X2_read 55 rfl) rfl 3 rfl (n := 98) rfl ?_
                  refine q_getR (z_dec zd_X2_read 56 rfl) zf_X2_15 (i := 27) rfl rfl (n := 101) rfl ?_
                  refine p_iload (z_dec zd_X2_read 57 rfl) 1 rfl (n := 103) rfl ?_
                  refine p_dup2 (z_dec zd_X2_read 58 rfl) rfl rfl (n := 104) rfl ?_
                  refine q_iald (z_dec zd_X2_read 59 rfl) rfl (by decide) (((f_X4_valueAt Iv Lv k (nI (2 * t38))).toInt32).toNatClampNeg) hj1.1 (Nat.lt_of_lt_of_le hj1.2 hn10) (v := (Iv 27 (((f_X4_valueAt Iv Lv k (nI (2 * t38))).toInt32).toNatClampNeg))) rfl (n := 105) rfl ?_
                  refine p_iconst (z_dec zd_X2_read 60 rfl) (v := 1) (by decide) (n := 106) rfl ?_
                  refine p_iload (z_dec zd_X2_read 61 rfl) 0 rfl (n := 108) rfl ?_
                  refine p_ishl (z_dec zd_X2_read 62 rfl) (n := 109) rfl ?_
                  refine p_ior (z_dec zd_X2_read 63 rfl) (n := 110) rfl ?_
                  refine q_iast (z_dec zd_X2_read 64 rfl) rfl (by decide) (((f_X4_valueAt Iv Lv k (nI (2 * t38))).toInt32).toNatClampNeg) hj1.1 (Nat.lt_of_lt_of_le hj1.2 hn10) (n := 111) rfl ?_
                  refine p_aload_n (z_dec zd_X2_read 65 rfl) rfl 3 rfl (n := 112) rfl ?_
                  refine q_getR (z_dec zd_X2_read 66 rfl) zf_X2_19 (i := 28) rfl rfl (n := 115) rfl ?_
                  refine p_iload (z_dec zd_X2_read 67 rfl) 1 rfl (n := 117) rfl ?_
                  refine p_dup2 (z_dec zd_X2_read 68 rfl) rfl rfl (n := 118) rfl ?_
                  refine q_lald (z_dec zd_X2_read 69 rfl) rfl (by decide) (((f_X4_valueAt Iv Lv k (nI (2 * t38))).toInt32).toNatClampNeg) hj1.1 (Nat.lt_of_lt_of_le hj1.2 hn10) (v := (Lv 28 (((f_X4_valueAt Iv Lv k (nI (2 * t38))).toInt32).toNatClampNeg))) rfl (n := 119) rfl ?_
                  refine p_lconst (z_dec zd_X2_read 70 rfl) (v := 1) (by decide) (n := 120) rfl ?_
                  refine p_bipush (z_dec zd_X2_read 71 rfl) (v := 6) (by decide) (n := 122) rfl ?_
                  refine p_iload (z_dec zd_X2_read 72 rfl) 0 rfl (n := 124) rfl ?_
                  refine p_imul (z_dec zd_X2_read 73 rfl) (n := 125) rfl ?_
                  refine p_lshl (z_dec zd_X2_read 74 rfl) (n := 126) rfl ?_
                  refine p_ladd (z_dec zd_X2_read 75 rfl) (n := 127) rfl ?_
                  refine q_last (z_dec zd_X2_read 76 rfl) rfl (by decide) (((f_X4_valueAt Iv Lv k (nI (2 * t38))).toInt32).toNatClampNeg) hj1.1 (Nat.lt_of_lt_of_le hj1.2 hn10) (n := 128) rfl ?_
                  refine p_iinc (z_dec zd_X2_read 77 rfl) 2 rfl (v := (nI (2 * (t38 + 1)))) (z_addE (a := 2 * t38) (b := 2) rfl rfl) (lv2 := [(3, .int (nI (2 * (t38 + 1)))), (5, .int ((f_X4_valueAt Iv Lv k ((nI (2 * t38)) + 1)).toInt32)), (4, .int ((f_X4_valueAt Iv Lv k (nI (2 * t38))).toInt32)), (0, .ref 26), (1, .ref k), (2, .ref 1)]) (by decide) rfl (n := 131) rfl ?_
                  refine p_goto (z_dec zd_X2_read 78 rfl) (t := 38) (by decide) ?_
                  refine z_sub (lv' := [(3, .int (nI (2 * (t38 + 1)))), (0, .ref 26), (1, .ref k), (2, .ref 1)]) [0, 3, 4, 5] rfl ?_
                  rw [show gx_X2_read_38 k (r38 + 1) t38 Iv Lv = gx_X2_read_38 k r38 (t38 + 1) (z_up Iv 27 (((f_X4_valueAt Iv Lv k (nI (2 * t38))).toInt32).toNatClampNeg) ((Iv 27 (((f_X4_valueAt Iv Lv k (nI (2 * t38))).toInt32).toNatClampNeg)) ||| ((1 : Int32) <<< (((f_X4_valueAt Iv Lv k ((nI (2 * t38)) + 1)).toInt32) &&& 31)))) (z_up Lv 28 (((f_X4_valueAt Iv Lv k (nI (2 * t38))).toInt32).toNatClampNeg) ((Lv 28 (((f_X4_valueAt Iv Lv k (nI (2 * t38))).toInt32).toNatClampNeg)) + ((1 : Int64) <<< ((6 * ((f_X4_valueAt Iv Lv k ((nI (2 * t38)) + 1)).toInt32)).toInt64 &&& 63)))) from by (conv => lhs; unfold gx_X2_read_38); rw [if_neg h51, if_neg h78, if_neg h87, if_neg h94]]
                  exact ih38 (t38 + 1) (z_up Iv 27 (((f_X4_valueAt Iv Lv k (nI (2 * t38))).toInt32).toNatClampNeg) ((Iv 27 (((f_X4_valueAt Iv Lv k (nI (2 * t38))).toInt32).toNatClampNeg)) ||| ((1 : Int32) <<< (((f_X4_valueAt Iv Lv k ((nI (2 * t38)) + 1)).toInt32) &&& 31)))) (z_up Lv 28 (((f_X4_valueAt Iv Lv k (nI (2 * t38))).toInt32).toNatClampNeg) ((Lv 28 (((f_X4_valueAt Iv Lv k (nI (2 * t38))).toInt32).toNatClampNeg)) + ((1 : Int64) <<< ((6 * ((f_X4_valueAt Iv Lv k ((nI (2 * t38)) + 1)).toInt32)).toInt64 &&& 63)))) (by omega) (yq_Ru hk42 hlo (by decide) (by decide) _ _)
    exact (by have q := (hL38 20 0 ((gw_X2_read_10 10 0 (z_up I 26 0 (nI np)) L).1) ((gw_X2_read_10 10 0 (z_up I 26 0 (nI np)) L).2) (by omega) hP36); (rw [show m_X2_read I L np k = _ from by unfold m_X2_read; rfl]); (rw [show n_X2_read I L np k = _ from by unfold n_X2_read; rfl]); exact q)
  exact hentry
