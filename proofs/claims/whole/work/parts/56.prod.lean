/-- how many bytes are left -/
def z_me (J : Nat → Nat → Int32) : Nat := (J 54 13).toNatClampNeg - (J 54 12).toNatClampNeg
/-- what a reading keeps -/
def z_K (J M : Nat → Nat → Int32) : Prop := z_Q M ∧ M 54 13 = J 54 13 ∧ (J 54 12).toNatClampNeg ≤ (M 54 12).toNatClampNeg ∧ (J 54 15).toNatClampNeg ≤ (M 54 15).toNatClampNeg
def z_FK (F : (Nat → Nat → Int32) → Int32 × (Nat → Nat → Int32)) : Prop := ∀ J, z_Q J → z_K J (F J).2
theorem z_K_rf {J : Nat → Nat → Int32} (h : z_Q J) : z_K J J := ⟨h, rfl, Nat.le_refl _, Nat.le_refl _⟩
theorem z_K_tr {J M P : Nat → Nat → Int32} (h : z_K J M) (g : z_K M P) : z_K J P := ⟨g.1, g.2.1.trans h.2.1, Nat.le_trans h.2.2.1 g.2.2.1, Nat.le_trans h.2.2.2 g.2.2.2⟩
theorem z_K_n {J M : Nat → Nat → Int32} {n : Nat} (h : z_K J M) (g : 7 - (J 54 15).toNatClampNeg < n) : 7 - (M 54 15).toNatClampNeg < n := by
  have := h.2.2.2
  omega
theorem z_K_me {J M : Nat → Nat → Int32} (h : z_K J M) : z_me M ≤ z_me J := by
  obtain ⟨-, h2, h3, -⟩ := h
  unfold z_me
  rw [h2]
  omega
theorem z_meQ {J : Nat → Nat → Int32} (h : z_Q J) : z_me J < 121 := by
  have := h.1.2
  unfold z_me
  omega
theorem z_K_ad {I : Nat → Nat → Int32} (h : z_Q I) (hb : ¬ z_by I = 0) : z_K I (z_ad1 I) ∧ z_me (z_ad1 I) < z_me I := by
  have g := z_Q_ad h hb
  have hlt := z_by0 hb
  obtain ⟨⟨a1, a2⟩, ⟨b1, b2⟩, -⟩ := h
  rw [a1, b1] at hlt
  have hl := z_nge hlt
  have e13 : z_ad1 I 54 13 = I 54 13 := rfl
  have e15 : z_ad1 I 54 15 = I 54 15 := rfl
  have e12 : (z_ad1 I 54 12).toNatClampNeg = (I 54 12).toNatClampNeg + 1 := by
    have e : z_ad1 I 54 12 = nI ((I 54 12).toNatClampNeg + 1) := by
      show I 54 12 + 1 = _
      rw [b1, nI_1, nI_clamp (by omega)]
    rw [e, nI_clamp (by omega)]
  refine ⟨⟨g, e13, ?_, ?_⟩, ?_⟩
  · rw [e12]; omega
  · rw [e15]; omega
  · unfold z_me
    rw [e13, e12]
    omega
theorem z_K_wr {I : Nat → Nat → Int32} (h : z_Q I) : z_K I (m_X9_wrong I) := by
  refine ⟨z_Q_wr h, ?_⟩
  unfold m_X9_wrong
  split <;> exact ⟨rfl, Nat.le_refl _, Nat.le_refl _⟩
theorem z_K_tk {I : Nat → Nat → Int32} (h : z_Q I) {c : Int32} (hc : ¬ c = 0) : z_K I (m_X9_takes I c) := by
  unfold m_X9_takes
  split
  · exact z_K_rf h
  · split
    · rename_i h2
      exact (z_K_ad h (fun q => hc (h2.symm.trans q))).1
    · exact z_K_rf h
theorem z_tk_me {I : Nat → Nat → Int32} (h : z_Q I) {c : Int32} (hc : ¬ c = 0) (h1 : ¬ f_X9_takes I c = 0) : z_me (m_X9_takes I c) < z_me I := by
  unfold f_X9_takes at h1
  unfold m_X9_takes
  split
  · rename_i g; rw [if_pos g] at h1; exact absurd rfl h1
  · rename_i g; rw [if_neg g] at h1
    split
    · rename_i h2
      exact (z_K_ad h (fun q => hc (h2.symm.trans q))).2
    · rename_i h2; rw [if_neg h2] at h1; exact absurd rfl h1
theorem z_b0 {I : Nat → Nat → Int32} {v c : Int32} (h : v = f_X9_byteAt I) (h2 : v = c) (hc : ¬ c = 0) : ¬ z_by I = 0 := fun q => hc (h2.symm.trans (h.trans q))
theorem z_dg0 {I : Nat → Nat → Int32} (h : ¬ f_X9_byteAt I < 48) : ¬ z_by I = 0 := by
  intro q
  unfold z_by at q
  rw [q] at h
  exact h (by decide)
theorem z_lt_le {a b c : Nat} (h1 : a < b) (h2 : b < c + 1) : a < c := by omega
theorem z_le_lt {a b c : Nat} (h1 : a ≤ b) (h2 : b < c) : a < c := by omega
def gx_X9_product_10 (FO : (Nat → Nat → Int32) → Int32 × (Nat → Nat → Int32)) : Nat → Nat → (Int32) → (Int32) → (Nat → Nat → Int32) → Int32 × (Nat → Nat → Int32)
  | 0, t10, v1, v2, Iv => (0, Iv)
  | r10 + 1, t10, v1, v2, Iv => if 0 ≤ (Iv 54 14) then (v1, Iv) else if v2 = 42 then gx_X9_product_10 FO r10 (t10 + 1) (v1 * (FO (z_up Iv 54 12 ((Iv 54 12) + 1))).1) (f_X9_byteAt ((FO (z_up Iv 54 12 ((Iv 54 12) + 1))).2)) ((FO (z_up Iv 54 12 ((Iv 54 12) + 1))).2) else if v2 = 47 then if (FO (z_up Iv 54 12 ((Iv 54 12) + 1))).1 = 0 then gx_X9_product_10 FO r10 (t10 + 1) 0 (f_X9_byteAt ((FO (z_up Iv 54 12 ((Iv 54 12) + 1))).2)) ((FO (z_up Iv 54 12 ((Iv 54 12) + 1))).2) else gx_X9_product_10 FO r10 (t10 + 1) (v1 / (FO (z_up Iv 54 12 ((Iv 54 12) + 1))).1) (f_X9_byteAt ((FO (z_up Iv 54 12 ((Iv 54 12) + 1))).2)) ((FO (z_up Iv 54 12 ((Iv 54 12) + 1))).2) else if v2 = 37 then if (FO (z_up Iv 54 12 ((Iv 54 12) + 1))).1 = 0 then gx_X9_product_10 FO r10 (t10 + 1) 0 (f_X9_byteAt ((FO (z_up Iv 54 12 ((Iv 54 12) + 1))).2)) ((FO (z_up Iv 54 12 ((Iv 54 12) + 1))).2) else gx_X9_product_10 FO r10 (t10 + 1) (v1 - v1 / (FO (z_up Iv 54 12 ((Iv 54 12) + 1))).1 * (FO (z_up Iv 54 12 ((Iv 54 12) + 1))).1) (f_X9_byteAt ((FO (z_up Iv 54 12 ((Iv 54 12) + 1))).2)) ((FO (z_up Iv 54 12 ((Iv 54 12) + 1))).2) else (v1, Iv)
def f_X9_product (I : Nat → Nat → Int32) (FO : (Nat → Nat → Int32) → Int32 × (Nat → Nat → Int32)) : Int32 := (gx_X9_product_10 FO 121 0 ((FO I).1) (f_X9_byteAt ((FO I).2)) ((FO I).2)).1
def m_X9_product (I : Nat → Nat → Int32) (FO : (Nat → Nat → Int32) → Int32 × (Nat → Nat → Int32)) : Nat → Nat → Int32 := (gx_X9_product_10 FO 121 0 ((FO I).1) (f_X9_byteAt ((FO I).2)) ((FO I).2)).2
set_option maxHeartbeats 2000000 in
set_option maxRecDepth 100000 in
theorem c_X9_product (d : Nat) (b : Bool) (I : Nat → Nat → Int32) (L : Nat → Nat → Int64) (hQ : z_Q I) (e n : Nat) (FO : (Nat → Nat → Int32) → Int32 × (Nat → Nat → Int32)) (hFO : ∀ (d : Nat) (J : Nat → Nat → Int32), e ≤ d → z_Q J → 7 - (J 54 15).toNatClampNeg < n → z_CT zm_X9_one d [.ref 54] SH (J, L, z_R b) 0 0 (z_ret (some (.int (FO J).1)) ((FO J).2, L, z_R b))) (hKO : z_FK FO) (hn : 7 - (I 54 15).toNatClampNeg < n) (hd : e + 1 ≤ d) : z_CT zm_X9_product d [.ref 54] SH (I, L, z_R b) 0 0 (z_ret (some (.int (f_X9_product I FO))) ((m_X9_product I FO), L, z_R b)) := by
  refine z_enter (by decide +kernel) (Nat.le_of_ble_eq_true rfl) ?_
  have hentry : PW zm_X9_product d 0 [(0, .ref 54)] [] SH (I, L, z_R b) 0 0 (z_ret (some (.int (f_X9_product I FO))) ((m_X9_product I FO), L, z_R b)) := by
    refine p_aload_n (z_dec zd_X9_product 0 rfl) rfl 0 rfl (n := 1) rfl ?_
    refine q_callV (As := []) (rest := []) (z_dec zd_X9_product 1 rfl) zk_X9_175 zv_X9_one (hFO (d - 1) I (by omega) (z_K_rf hQ).1 (z_K_n (z_K_rf hQ) hn)) rfl ⟨_, _, rfl⟩ rfl rfl (Nat.le_of_ble_eq_true rfl) (by omega) (n := 4) rfl ?_
    show PW zm_X9_product d 4 [(0, .ref 54)] [.int ((FO I).1)] SH ((FO I).2, L, z_R b) 0 0 _
    have hP4 : z_K I ((FO I).2) := hKO I hQ
    refine p_istore_n (z_dec zd_X9_product 2 rfl) rfl (lv2 := [(1, .int ((FO I).1)), (0, .ref 54)]) (by decide) rfl (n := 5) rfl ?_
    refine p_aload_n (z_dec zd_X9_product 3 rfl) rfl 1 rfl (n := 6) rfl ?_
    refine q_callV (As := []) (rest := []) (z_dec zd_X9_product 4 rfl) zk_X9_156 zv_X9_byteAt (c_X9_byteAt (d - 1) (by omega) b ((FO I).2) L hP4.1) rfl ⟨_, _, rfl⟩ rfl rfl (Nat.le_of_ble_eq_true rfl) (by omega) (n := 9) rfl ?_
    show PW zm_X9_product d 9 [(1, .int ((FO I).1)), (0, .ref 54)] [.int (f_X9_byteAt ((FO I).2))] SH ((FO I).2, L, z_R b) 0 0 _
    refine p_istore_n (z_dec zd_X9_product 5 rfl) rfl (lv2 := [(2, .int (f_X9_byteAt ((FO I).2))), (1, .int ((FO I).1)), (0, .ref 54)]) (by decide) rfl (n := 10) rfl ?_
    have hL10 : ∀ (r10 t10 : Nat) (v1 : Int32) (v2 : Int32) (Iv : Nat → Nat → Int32), z_me Iv < r10 → (z_K I Iv ∧ v2 = f_X9_byteAt Iv) → PW zm_X9_product d 10 [(2, .int v2), (1, .int v1), (0, .ref 54)] [] SH (Iv, L, z_R b) 0 0 (z_ret (some (.int (gx_X9_product_10 FO r10 t10 v1 v2 Iv).1)) ((gx_X9_product_10 FO r10 t10 v1 v2 Iv).2, L, z_R b)) := by
      intro r10
      induction r10 with
      | zero =>
        intro t10 v1 v2 Iv ht10 hlo
        exact absurd ht10 (Nat.not_lt_zero _)
      | succ r10 ih10 =>
        intro t10 v1 v2 Iv ht10 hlo
        refine p_aload_n (z_dec zd_X9_product 6 rfl) rfl 2 rfl (n := 11) rfl ?_
        refine q_getI (z_dec zd_X9_product 7 rfl) zf_X9_153 (by decide) rfl (v := (Iv 54 14)) rfl (n := 14) rfl ?_
        refine p_if_ge (z_dec zd_X9_product 8 rfl) (t := 94) (by decide) (n := 17) rfl (fun h14 => ?_) (fun h14 => ?_)
        · refine p_iload_n (z_dec zd_X9_product 53 rfl) rfl 1 rfl (n := 95) rfl ?_
          exact p_iret (z_dec zd_X9_product 54 rfl) rfl ⟨(by (conv => rhs; unfold gx_X9_product_10); rw [if_pos h14]), rfl, (z_3 (by (conv => rhs; unfold gx_X9_product_10); rw [if_pos h14]) rfl)⟩
        · refine p_iload_n (z_dec zd_X9_product 9 rfl) rfl 0 rfl (n := 18) rfl ?_
          refine p_bipush (z_dec zd_X9_product 10 rfl) (v := 42) (by decide) (n := 20) rfl ?_
          refine p_icmp_eq (z_dec zd_X9_product 11 rfl) (t := 35) (by decide) (n := 23) rfl (fun h20 => ?_) (fun h20 => ?_)
          · refine p_aload_n (z_dec zd_X9_product 18 rfl) rfl 2 rfl (n := 36) rfl ?_
            refine p_dup (z_dec zd_X9_product 19 rfl) rfl (n := 37) rfl ?_
            refine q_getI (z_dec zd_X9_product 20 rfl) zf_X9_144 (by decide) rfl (v := (Iv 54 12)) rfl (n := 40) rfl ?_
            refine p_iconst (z_dec zd_X9_product 21 rfl) (v := 1) (by decide) (n := 41) rfl ?_
            refine p_iadd (z_dec zd_X9_product 22 rfl) (n := 42) rfl ?_
            refine q_putI (z_dec zd_X9_product 23 rfl) zp_X9_144 (fun q => by cases q) rfl (n := 45) rfl ?_
            have ha45 := z_K_ad hlo.1.1 (by first | exact z_b0 hlo.2 h20 (by decide) | exact z_b0 hlo.2 h26 (by decide) | exact z_b0 hlo.2 h32 (by decide))
            have hP45 : z_K I ((z_up Iv 54 12 ((Iv 54 12) + 1))) := z_K_tr hlo.1 ha45.1
            refine p_aload_n (z_dec zd_X9_product 24 rfl) rfl 2 rfl (n := 46) rfl ?_
            refine q_callV (As := []) (rest := []) (z_dec zd_X9_product 25 rfl) zk_X9_175 zv_X9_one (hFO (d - 1) (z_up Iv 54 12 ((Iv 54 12) + 1)) (by omega) hP45.1 (z_K_n hP45 hn)) rfl ⟨_, _, rfl⟩ rfl rfl (Nat.le_of_ble_eq_true rfl) (by omega) (n := 49) rfl ?_
            show PW zm_X9_product d 49 [(2, .int v2), (1, .int v1), (0, .ref 54)] [.int ((FO (z_up Iv 54 12 ((Iv 54 12) + 1))).1)] SH ((FO (z_up Iv 54 12 ((Iv 54 12) + 1))).2, L, z_R b) 0 0 _
            have ha49 := hKO _ hP45.1
            have hP49 : z_K I ((FO (z_up Iv 54 12 ((Iv 54 12) + 1))).2) := z_K_tr hP45 ha49
            refine p_istore_n (z_dec zd_X9_product 26 rfl) rfl (lv2 := [(3, .int ((FO (z_up Iv 54 12 ((Iv 54 12) + 1))).1)), (2, .int v2), (1, .int v1), (0, .ref 54)]) (by decide) rfl (n := 50) rfl ?_
            refine p_iload_n (z_dec zd_X9_product 27 rfl) rfl 1 rfl (n := 51) rfl ?_
            refine p_bipush (z_dec zd_X9_product 28 rfl) (v := 42) (by decide) (n := 53) rfl ?_
            refine p_icmp_ne (z_dec zd_X9_product 29 rfl) (t := 62) (by decide) (n := 56) rfl (fun h53 => ?_) (fun h53 => ?_)
            · exact absurd h20 h53
            · refine p_iload_n (z_dec zd_X9_product 30 rfl) rfl 2 rfl (n := 57) rfl ?_
              refine p_iload_n (z_dec zd_X9_product 31 rfl) rfl 0 rfl (n := 58) rfl ?_
              refine p_imul (z_dec zd_X9_product 32 rfl) (n := 59) rfl ?_
              refine p_goto (z_dec zd_X9_product 33 rfl) (t := 85) (by decide) ?_
              refine p_istore_n (z_dec zd_X9_product 48 rfl) rfl (lv2 := [(1, .int (v1 * (FO (z_up Iv 54 12 ((Iv 54 12) + 1))).1)), (3, .int ((FO (z_up Iv 54 12 ((Iv 54 12) + 1))).1)), (2, .int v2), (0, .ref 54)]) (by decide) rfl (n := 86) rfl ?_
              refine p_aload_n (z_dec zd_X9_product 49 rfl) rfl 3 rfl (n := 87) rfl ?_
              refine q_callV (As := []) (rest := []) (z_dec zd_X9_product 50 rfl) zk_X9_156 zv_X9_byteAt (c_X9_byteAt (d - 1) (by omega) b ((FO (z_up Iv 54 12 ((Iv 54 12) + 1))).2) L hP49.1) rfl ⟨_, _, rfl⟩ rfl rfl (Nat.le_of_ble_eq_true rfl) (by omega) (n := 90) rfl ?_
              show PW zm_X9_product d 90 [(1, .int (v1 * (FO (z_up Iv 54 12 ((Iv 54 12) + 1))).1)), (3, .int ((FO (z_up Iv 54 12 ((Iv 54 12) + 1))).1)), (2, .int v2), (0, .ref 54)] [.int (f_X9_byteAt ((FO (z_up Iv 54 12 ((Iv 54 12) + 1))).2))] SH ((FO (z_up Iv 54 12 ((Iv 54 12) + 1))).2, L, z_R b) 0 0 _
              refine p_istore_n (z_dec zd_X9_product 51 rfl) rfl (lv2 := [(2, .int (f_X9_byteAt ((FO (z_up Iv 54 12 ((Iv 54 12) + 1))).2))), (1, .int (v1 * (FO (z_up Iv 54 12 ((Iv 54 12) + 1))).1)), (3, .int ((FO (z_up Iv 54 12 ((Iv 54 12) + 1))).1)), (0, .ref 54)]) (by decide) rfl (n := 91) rfl ?_
              refine p_goto (z_dec zd_X9_product 52 rfl) (t := 10) (by decide) ?_
              refine z_sub (lv' := [(2, .int (f_X9_byteAt ((FO (z_up Iv 54 12 ((Iv 54 12) + 1))).2))), (1, .int (v1 * (FO (z_up Iv 54 12 ((Iv 54 12) + 1))).1)), (0, .ref 54)]) [0, 1, 3] rfl ?_
              rw [show gx_X9_product_10 FO (r10 + 1) t10 v1 v2 Iv = gx_X9_product_10 FO r10 (t10 + 1) (v1 * (FO (z_up Iv 54 12 ((Iv 54 12) + 1))).1) (f_X9_byteAt ((FO (z_up Iv 54 12 ((Iv 54 12) + 1))).2)) ((FO (z_up Iv 54 12 ((Iv 54 12) + 1))).2) from by (conv => lhs; unfold gx_X9_product_10); rw [if_neg h14, if_pos h20]]
              exact ih10 (t10 + 1) (v1 * (FO (z_up Iv 54 12 ((Iv 54 12) + 1))).1) (f_X9_byteAt ((FO (z_up Iv 54 12 ((Iv 54 12) + 1))).2)) ((FO (z_up Iv 54 12 ((Iv 54 12) + 1))).2) (z_lt_le (Nat.lt_of_le_of_lt (z_K_me ha49) ha45.2) ht10) ⟨hP49, rfl⟩
          · refine p_iload_n (z_dec zd_X9_product 12 rfl) rfl 0 rfl (n := 24) rfl ?_
            refine p_bipush (z_dec zd_X9_product 13 rfl) (v := 47) (by decide) (n := 26) rfl ?_
            refine p_icmp_eq (z_dec zd_X9_product 14 rfl) (t := 35) (by decide) (n := 29) rfl (fun h26 => ?_) (fun h26 => ?_)
            · refine p_aload_n (z_dec zd_X9_product 18 rfl) rfl 2 rfl (n := 36) rfl ?_
              refine p_dup (z_dec zd_X9_product 19 rfl) rfl (n := 37) rfl ?_
              refine q_getI (z_dec zd_X9_product 20 rfl) zf_X9_144 (by decide) rfl (v := (Iv 54 12)) rfl (n := 40) rfl ?_
              refine p_iconst (z_dec zd_X9_product 21 rfl) (v := 1) (by decide) (n := 41) rfl ?_
              refine p_iadd (z_dec zd_X9_product 22 rfl) (n := 42) rfl ?_
              refine q_putI (z_dec zd_X9_product 23 rfl) zp_X9_144 (fun q => by cases q) rfl (n := 45) rfl ?_
              have ha45 := z_K_ad hlo.1.1 (by first | exact z_b0 hlo.2 h20 (by decide) | exact z_b0 hlo.2 h26 (by decide) | exact z_b0 hlo.2 h32 (by decide))
              have hP45 : z_K I ((z_up Iv 54 12 ((Iv 54 12) + 1))) := z_K_tr hlo.1 ha45.1
              refine p_aload_n (z_dec zd_X9_product 24 rfl) rfl 2 rfl (n := 46) rfl ?_
              refine q_callV (As := []) (rest := []) (z_dec zd_X9_product 25 rfl) zk_X9_175 zv_X9_one (hFO (d - 1) (z_up Iv 54 12 ((Iv 54 12) + 1)) (by omega) hP45.1 (z_K_n hP45 hn)) rfl ⟨_, _, rfl⟩ rfl rfl (Nat.le_of_ble_eq_true rfl) (by omega) (n := 49) rfl ?_
              show PW zm_X9_product d 49 [(2, .int v2), (1, .int v1), (0, .ref 54)] [.int ((FO (z_up Iv 54 12 ((Iv 54 12) + 1))).1)] SH ((FO (z_up Iv 54 12 ((Iv 54 12) + 1))).2, L, z_R b) 0 0 _
              have ha49 := hKO _ hP45.1
              have hP49 : z_K I ((FO (z_up Iv 54 12 ((Iv 54 12) + 1))).2) := z_K_tr hP45 ha49
              refine p_istore_n (z_dec zd_X9_product 26 rfl) rfl (lv2 := [(3, .int ((FO (z_up Iv 54 12 ((Iv 54 12) + 1))).1)), (2, .int v2), (1, .int v1), (0, .ref 54)]) (by decide) rfl (n := 50) rfl ?_
              refine p_iload_n (z_dec zd_X9_product 27 rfl) rfl 1 rfl (n := 51) rfl ?_
              refine p_bipush (z_dec zd_X9_product 28 rfl) (v := 42) (by decide) (n := 53) rfl ?_
              refine p_icmp_ne (z_dec zd_X9_product 29 rfl) (t := 62) (by decide) (n := 56) rfl (fun h53 => ?_) (fun h53 => ?_)
              · refine p_iload_n (z_dec zd_X9_product 34 rfl) rfl 0 rfl (n := 63) rfl ?_
                refine p_if_ne (z_dec zd_X9_product 35 rfl) (t := 70) (by decide) (n := 66) rfl (fun h63 => ?_) (fun h63 => ?_)
                · refine p_iload_n (z_dec zd_X9_product 38 rfl) rfl 1 rfl (n := 71) rfl ?_
                  refine p_bipush (z_dec zd_X9_product 39 rfl) (v := 47) (by decide) (n := 73) rfl ?_
                  refine p_icmp_ne (z_dec zd_X9_product 40 rfl) (t := 82) (by decide) (n := 76) rfl (fun h73 => ?_) (fun h73 => ?_)
                  · exact absurd h26 h73
                  · refine p_iload_n (z_dec zd_X9_product 41 rfl) rfl 2 rfl (n := 77) rfl ?_
                    refine p_iload_n (z_dec zd_X9_product 42 rfl) rfl 0 rfl (n := 78) rfl ?_
                    refine p_idiv (z_dec zd_X9_product 43 rfl) h63 (n := 79) rfl ?_
                    refine p_goto (z_dec zd_X9_product 44 rfl) (t := 85) (by decide) ?_
                    refine p_istore_n (z_dec zd_X9_product 48 rfl) rfl (lv2 := [(1, .int (v1 / (FO (z_up Iv 54 12 ((Iv 54 12) + 1))).1)), (3, .int ((FO (z_up Iv 54 12 ((Iv 54 12) + 1))).1)), (2, .int v2), (0, .ref 54)]) (by decide) rfl (n := 86) rfl ?_
                    refine p_aload_n (z_dec zd_X9_product 49 rfl) rfl 3 rfl (n := 87) rfl ?_
                    refine q_callV (As := []) (rest := []) (z_dec zd_X9_product 50 rfl) zk_X9_156 zv_X9_byteAt (c_X9_byteAt (d - 1) (by omega) b ((FO (z_up Iv 54 12 ((Iv 54 12) + 1))).2) L hP49.1) rfl ⟨_, _, rfl⟩ rfl rfl (Nat.le_of_ble_eq_true rfl) (by omega) (n := 90) rfl ?_
                    show PW zm_X9_product d 90 [(1, .int (v1 / (FO (z_up Iv 54 12 ((Iv 54 12) + 1))).1)), (3, .int ((FO (z_up Iv 54 12 ((Iv 54 12) + 1))).1)), (2, .int v2), (0, .ref 54)] [.int (f_X9_byteAt ((FO (z_up Iv 54 12 ((Iv 54 12) + 1))).2))] SH ((FO (z_up Iv 54 12 ((Iv 54 12) + 1))).2, L, z_R b) 0 0 _
                    refine p_istore_n (z_dec zd_X9_product 51 rfl) rfl (lv2 := [(2, .int (f_X9_byteAt ((FO (z_up Iv 54 12 ((Iv 54 12) + 1))).2))), (1, .int (v1 / (FO (z_up Iv 54 12 ((Iv 54 12) + 1))).1)), (3, .int ((FO (z_up Iv 54 12 ((Iv 54 12) + 1))).1)), (0, .ref 54)]) (by decide) rfl (n := 91) rfl ?_
                    refine p_goto (z_dec zd_X9_product 52 rfl) (t := 10) (by decide) ?_
                    refine z_sub (lv' := [(2, .int (f_X9_byteAt ((FO (z_up Iv 54 12 ((Iv 54 12) + 1))).2))), (1, .int (v1 / (FO (z_up Iv 54 12 ((Iv 54 12) + 1))).1)), (0, .ref 54)]) [0, 1, 3] rfl ?_
                    rw [show gx_X9_product_10 FO (r10 + 1) t10 v1 v2 Iv = gx_X9_product_10 FO r10 (t10 + 1) (v1 / (FO (z_up Iv 54 12 ((Iv 54 12) + 1))).1) (f_X9_byteAt ((FO (z_up Iv 54 12 ((Iv 54 12) + 1))).2)) ((FO (z_up Iv 54 12 ((Iv 54 12) + 1))).2) from by (conv => lhs; unfold gx_X9_product_10); rw [if_neg h14, if_neg h20, if_pos h26, if_neg h63]]
                    exact ih10 (t10 + 1) (v1 / (FO (z_up Iv 54 12 ((Iv 54 12) + 1))).1) (f_X9_byteAt ((FO (z_up Iv 54 12 ((Iv 54 12) + 1))).2)) ((FO (z_up Iv 54 12 ((Iv 54 12) + 1))).2) (z_lt_le (Nat.lt_of_le_of_lt (z_K_me ha49) ha45.2) ht10) ⟨hP49, rfl⟩
                · refine p_iconst (z_dec zd_X9_product 36 rfl) (v := 0) (by decide) (n := 67) rfl ?_
                  refine p_goto (z_dec zd_X9_product 37 rfl) (t := 85) (by decide) ?_
                  refine p_istore_n (z_dec zd_X9_product 48 rfl) rfl (lv2 := [(1, .int 0), (3, .int ((FO (z_up Iv 54 12 ((Iv 54 12) + 1))).1)), (2, .int v2), (0, .ref 54)]) (by decide) rfl (n := 86) rfl ?_
                  refine p_aload_n (z_dec zd_X9_product 49 rfl) rfl 3 rfl (n := 87) rfl ?_
                  refine q_callV (As := []) (rest := []) (z_dec zd_X9_product 50 rfl) zk_X9_156 zv_X9_byteAt (c_X9_byteAt (d - 1) (by omega) b ((FO (z_up Iv 54 12 ((Iv 54 12) + 1))).2) L hP49.1) rfl ⟨_, _, rfl⟩ rfl rfl (Nat.le_of_ble_eq_true rfl) (by omega) (n := 90) rfl ?_
                  show PW zm_X9_product d 90 [(1, .int 0), (3, .int ((FO (z_up Iv 54 12 ((Iv 54 12) + 1))).1)), (2, .int v2), (0, .ref 54)] [.int (f_X9_byteAt ((FO (z_up Iv 54 12 ((Iv 54 12) + 1))).2))] SH ((FO (z_up Iv 54 12 ((Iv 54 12) + 1))).2, L, z_R b) 0 0 _
                  refine p_istore_n (z_dec zd_X9_product 51 rfl) rfl (lv2 := [(2, .int (f_X9_byteAt ((FO (z_up Iv 54 12 ((Iv 54 12) + 1))).2))), (1, .int 0), (3, .int ((FO (z_up Iv 54 12 ((Iv 54 12) + 1))).1)), (0, .ref 54)]) (by decide) rfl (n := 91) rfl ?_
                  refine p_goto (z_dec zd_X9_product 52 rfl) (t := 10) (by decide) ?_
                  refine z_sub (lv' := [(2, .int (f_X9_byteAt ((FO (z_up Iv 54 12 ((Iv 54 12) + 1))).2))), (1, .int 0), (0, .ref 54)]) [0, 1, 3] rfl ?_
                  rw [show gx_X9_product_10 FO (r10 + 1) t10 v1 v2 Iv = gx_X9_product_10 FO r10 (t10 + 1) 0 (f_X9_byteAt ((FO (z_up Iv 54 12 ((Iv 54 12) + 1))).2)) ((FO (z_up Iv 54 12 ((Iv 54 12) + 1))).2) from by (conv => lhs; unfold gx_X9_product_10); rw [if_neg h14, if_neg h20, if_pos h26, if_pos h63]]
                  exact ih10 (t10 + 1) 0 (f_X9_byteAt ((FO (z_up Iv 54 12 ((Iv 54 12) + 1))).2)) ((FO (z_up Iv 54 12 ((Iv 54 12) + 1))).2) (z_lt_le (Nat.lt_of_le_of_lt (z_K_me ha49) ha45.2) ht10) ⟨hP49, rfl⟩
              · exact absurd (h26.symm.trans h53) (by decide)
            · refine p_iload_n (z_dec zd_X9_product 15 rfl) rfl 0 rfl (n := 30) rfl ?_
              refine p_bipush (z_dec zd_X9_product 16 rfl) (v := 37) (by decide) (n := 32) rfl ?_
              refine p_icmp_ne (z_dec zd_X9_product 17 rfl) (t := 94) (by decide) (n := 35) rfl (fun h32 => ?_) (fun h32 => ?_)
              · refine p_iload_n (z_dec zd_X9_product 53 rfl) rfl 1 rfl (n := 95) rfl ?_
                exact p_iret (z_dec zd_X9_product 54 rfl) rfl ⟨(by (conv => rhs; unfold gx_X9_product_10); rw [if_neg h14, if_neg h20, if_neg h26, if_neg h32]), rfl, (z_3 (by (conv => rhs; unfold gx_X9_product_10); rw [if_neg h14, if_neg h20, if_neg h26, if_neg h32]) rfl)⟩
              · refine p_aload_n (z_dec zd_X9_product 18 rfl) rfl 2 rfl (n := 36) rfl ?_
                refine p_dup (z_dec zd_X9_product 19 rfl) rfl (n := 37) rfl ?_
                refine q_getI (z_dec zd_X9_product 20 rfl) zf_X9_144 (by decide) rfl (v := (Iv 54 12)) rfl (n := 40) rfl ?_
                refine p_iconst (z_dec zd_X9_product 21 rfl) (v := 1) (by decide) (n := 41) rfl ?_
                refine p_iadd (z_dec zd_X9_product 22 rfl) (n := 42) rfl ?_
                refine q_putI (z_dec zd_X9_product 23 rfl) zp_X9_144 (fun q => by cases q) rfl (n := 45) rfl ?_
                have ha45 := z_K_ad hlo.1.1 (by first | exact z_b0 hlo.2 h20 (by decide) | exact z_b0 hlo.2 h26 (by decide) | exact z_b0 hlo.2 h32 (by decide))
                have hP45 : z_K I ((z_up Iv 54 12 ((Iv 54 12) + 1))) := z_K_tr hlo.1 ha45.1
                refine p_aload_n (z_dec zd_X9_product 24 rfl) rfl 2 rfl (n := 46) rfl ?_
                refine q_callV (As := []) (rest := []) (z_dec zd_X9_product 25 rfl) zk_X9_175 zv_X9_one (hFO (d - 1) (z_up Iv 54 12 ((Iv 54 12) + 1)) (by omega) hP45.1 (z_K_n hP45 hn)) rfl ⟨_, _, rfl⟩ rfl rfl (Nat.le_of_ble_eq_true rfl) (by omega) (n := 49) rfl ?_
                show PW zm_X9_product d 49 [(2, .int v2), (1, .int v1), (0, .ref 54)] [.int ((FO (z_up Iv 54 12 ((Iv 54 12) + 1))).1)] SH ((FO (z_up Iv 54 12 ((Iv 54 12) + 1))).2, L, z_R b) 0 0 _
                have ha49 := hKO _ hP45.1
                have hP49 : z_K I ((FO (z_up Iv 54 12 ((Iv 54 12) + 1))).2) := z_K_tr hP45 ha49
                refine p_istore_n (z_dec zd_X9_product 26 rfl) rfl (lv2 := [(3, .int ((FO (z_up Iv 54 12 ((Iv 54 12) + 1))).1)), (2, .int v2), (1, .int v1), (0, .ref 54)]) (by decide) rfl (n := 50) rfl ?_
                refine p_iload_n (z_dec zd_X9_product 27 rfl) rfl 1 rfl (n := 51) rfl ?_
                refine p_bipush (z_dec zd_X9_product 28 rfl) (v := 42) (by decide) (n := 53) rfl ?_
                refine p_icmp_ne (z_dec zd_X9_product 29 rfl) (t := 62) (by decide) (n := 56) rfl (fun h53 => ?_) (fun h53 => ?_)
                · refine p_iload_n (z_dec zd_X9_product 34 rfl) rfl 0 rfl (n := 63) rfl ?_
                  refine p_if_ne (z_dec zd_X9_product 35 rfl) (t := 70) (by decide) (n := 66) rfl (fun h63 => ?_) (fun h63 => ?_)
                  · refine p_iload_n (z_dec zd_X9_product 38 rfl) rfl 1 rfl (n := 71) rfl ?_
                    refine p_bipush (z_dec zd_X9_product 39 rfl) (v := 47) (by decide) (n := 73) rfl ?_
                    refine p_icmp_ne (z_dec zd_X9_product 40 rfl) (t := 82) (by decide) (n := 76) rfl (fun h73 => ?_) (fun h73 => ?_)
                    · refine p_iload_n (z_dec zd_X9_product 45 rfl) rfl 2 rfl (n := 83) rfl ?_
                      refine p_iload_n (z_dec zd_X9_product 46 rfl) rfl 0 rfl (n := 84) rfl ?_
                      refine p_irem (z_dec zd_X9_product 47 rfl) h63 (n := 85) rfl ?_
                      refine p_istore_n (z_dec zd_X9_product 48 rfl) rfl (lv2 := [(1, .int (v1 - v1 / (FO (z_up Iv 54 12 ((Iv 54 12) + 1))).1 * (FO (z_up Iv 54 12 ((Iv 54 12) + 1))).1)), (3, .int ((FO (z_up Iv 54 12 ((Iv 54 12) + 1))).1)), (2, .int v2), (0, .ref 54)]) (by decide) rfl (n := 86) rfl ?_
                      refine p_aload_n (z_dec zd_X9_product 49 rfl) rfl 3 rfl (n := 87) rfl ?_
                      refine q_callV (As := []) (rest := []) (z_dec zd_X9_product 50 rfl) zk_X9_156 zv_X9_byteAt (c_X9_byteAt (d - 1) (by omega) b ((FO (z_up Iv 54 12 ((Iv 54 12) + 1))).2) L hP49.1) rfl ⟨_, _, rfl⟩ rfl rfl (Nat.le_of_ble_eq_true rfl) (by omega) (n := 90) rfl ?_
                      show PW zm_X9_product d 90 [(1, .int (v1 - v1 / (FO (z_up Iv 54 12 ((Iv 54 12) + 1))).1 * (FO (z_up Iv 54 12 ((Iv 54 12) + 1))).1)), (3, .int ((FO (z_up Iv 54 12 ((Iv 54 12) + 1))).1)), (2, .int v2), (0, .ref 54)] [.int (f_X9_byteAt ((FO (z_up Iv 54 12 ((Iv 54 12) + 1))).2))] SH ((FO (z_up Iv 54 12 ((Iv 54 12) + 1))).2, L, z_R b) 0 0 _
                      refine p_istore_n (z_dec zd_X9_product 51 rfl) rfl (lv2 := [(2, .int (f_X9_byteAt ((FO (z_up Iv 54 12 ((Iv 54 12) + 1))).2))), (1, .int (v1 - v1 / (FO (z_up Iv 54 12 ((Iv 54 12) + 1))).1 * (FO (z_up Iv 54 12 ((Iv 54 12) + 1))).1)), (3, .int ((FO (z_up Iv 54 12 ((Iv 54 12) + 1))).1)), (0, .ref 54)]) (by decide) rfl (n := 91) rfl ?_
                      refine p_goto (z_dec zd_X9_product 52 rfl) (t := 10) (by decide) ?_
                      refine z_sub (lv' := [(2, .int (f_X9_byteAt ((FO (z_up Iv 54 12 ((Iv 54 12) + 1))).2))), (1, .int (v1 - v1 / (FO (z_up Iv 54 12 ((Iv 54 12) + 1))).1 * (FO (z_up Iv 54 12 ((Iv 54 12) + 1))).1)), (0, .ref 54)]) [0, 1, 3] rfl ?_
                      rw [show gx_X9_product_10 FO (r10 + 1) t10 v1 v2 Iv = gx_X9_product_10 FO r10 (t10 + 1) (v1 - v1 / (FO (z_up Iv 54 12 ((Iv 54 12) + 1))).1 * (FO (z_up Iv 54 12 ((Iv 54 12) + 1))).1) (f_X9_byteAt ((FO (z_up Iv 54 12 ((Iv 54 12) + 1))).2)) ((FO (z_up Iv 54 12 ((Iv 54 12) + 1))).2) from by (conv => lhs; unfold gx_X9_product_10); rw [if_neg h14, if_neg h20, if_neg h26, if_pos h32, if_neg h63]]
                      exact ih10 (t10 + 1) (v1 - v1 / (FO (z_up Iv 54 12 ((Iv 54 12) + 1))).1 * (FO (z_up Iv 54 12 ((Iv 54 12) + 1))).1) (f_X9_byteAt ((FO (z_up Iv 54 12 ((Iv 54 12) + 1))).2)) ((FO (z_up Iv 54 12 ((Iv 54 12) + 1))).2) (z_lt_le (Nat.lt_of_le_of_lt (z_K_me ha49) ha45.2) ht10) ⟨hP49, rfl⟩
                    · exact absurd (h32.symm.trans h73) (by decide)
                  · refine p_iconst (z_dec zd_X9_product 36 rfl) (v := 0) (by decide) (n := 67) rfl ?_
                    refine p_goto (z_dec zd_X9_product 37 rfl) (t := 85) (by decide) ?_
                    refine p_istore_n (z_dec zd_X9_product 48 rfl) rfl (lv2 := [(1, .int 0), (3, .int ((FO (z_up Iv 54 12 ((Iv 54 12) + 1))).1)), (2, .int v2), (0, .ref 54)]) (by decide) rfl (n := 86) rfl ?_
                    refine p_aload_n (z_dec zd_X9_product 49 rfl) rfl 3 rfl (n := 87) rfl ?_
                    refine q_callV (As := []) (rest := []) (z_dec zd_X9_product 50 rfl) zk_X9_156 zv_X9_byteAt (c_X9_byteAt (d - 1) (by omega) b ((FO (z_up Iv 54 12 ((Iv 54 12) + 1))).2) L hP49.1) rfl ⟨_, _, rfl⟩ rfl rfl (Nat.le_of_ble_eq_true rfl) (by omega) (n := 90) rfl ?_
                    show PW zm_X9_product d 90 [(1, .int 0), (3, .int ((FO (z_up Iv 54 12 ((Iv 54 12) + 1))).1)), (2, .int v2), (0, .ref 54)] [.int (f_X9_byteAt ((FO (z_up Iv 54 12 ((Iv 54 12) + 1))).2))] SH ((FO (z_up Iv 54 12 ((Iv 54 12) + 1))).2, L, z_R b) 0 0 _
                    refine p_istore_n (z_dec zd_X9_product 51 rfl) rfl (lv2 := [(2, .int (f_X9_byteAt ((FO (z_up Iv 54 12 ((Iv 54 12) + 1))).2))), (1, .int 0), (3, .int ((FO (z_up Iv 54 12 ((Iv 54 12) + 1))).1)), (0, .ref 54)]) (by decide) rfl (n := 91) rfl ?_
                    refine p_goto (z_dec zd_X9_product 52 rfl) (t := 10) (by decide) ?_
                    refine z_sub (lv' := [(2, .int (f_X9_byteAt ((FO (z_up Iv 54 12 ((Iv 54 12) + 1))).2))), (1, .int 0), (0, .ref 54)]) [0, 1, 3] rfl ?_
                    rw [show gx_X9_product_10 FO (r10 + 1) t10 v1 v2 Iv = gx_X9_product_10 FO r10 (t10 + 1) 0 (f_X9_byteAt ((FO (z_up Iv 54 12 ((Iv 54 12) + 1))).2)) ((FO (z_up Iv 54 12 ((Iv 54 12) + 1))).2) from by (conv => lhs; unfold gx_X9_product_10); rw [if_neg h14, if_neg h20, if_neg h26, if_pos h32, if_pos h63]]
                    exact ih10 (t10 + 1) 0 (f_X9_byteAt ((FO (z_up Iv 54 12 ((Iv 54 12) + 1))).2)) ((FO (z_up Iv 54 12 ((Iv 54 12) + 1))).2) (z_lt_le (Nat.lt_of_le_of_lt (z_K_me ha49) ha45.2) ht10) ⟨hP49, rfl⟩
                · exact absurd (h32.symm.trans h53) (by decide)
    exact (by have q := (hL10 121 0 ((FO I).1) (f_X9_byteAt ((FO I).2)) ((FO I).2) (z_meQ hP4.1) ⟨hP4, rfl⟩); (rw [show f_X9_product I FO = _ from by unfold f_X9_product; rfl]); (rw [show m_X9_product I FO = _ from by unfold m_X9_product; rfl]); exact q)
  exact hentry
