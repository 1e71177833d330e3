def f_X5_isKind (kind : Int32) : Int32 := if kind < 0 then 0 else if 8 ≤ kind then 0 else 1
set_option maxHeartbeats 4000000 in
set_option maxRecDepth 100000 in
theorem c_X5_isKind (d : Nat) (hd : 0 ≤ d) (b : Bool) (I : Nat → Nat → Int32) (L : Nat → Nat → Int64) (kind : Int32) : z_CT zm_X5_isKind d [.int kind] SH (I, L, z_R b) 0 0 (z_ret (some (.int (f_X5_isKind kind))) (I, L, z_R b)) := by
  refine z_enter (by decide +kernel) (Nat.le_of_ble_eq_true rfl) ?_
  have hentry : PW zm_X5_isKind d 0 [(0, .int kind)] [] SH (I, L, z_R b) 0 0 (z_ret (some (.int (f_X5_isKind kind))) (I, L, z_R b)) := by
    refine p_iload_n (z_dec zd_X5_isKind 0 rfl) rfl 0 rfl (n := 1) rfl ?_
    refine p_if_lt (z_dec zd_X5_isKind 1 rfl) (t := 14) (by decide) (n := 4) rfl (fun h1 => ?_) (fun h1 => ?_)
    · refine p_iconst (z_dec zd_X5_isKind 7 rfl) (v := 0) (by decide) (n := 15) rfl ?_
      exact p_zret (z_dec zd_X5_isKind 8 rfl) rfl (Or.inl rfl) ⟨(by unfold f_X5_isKind; rw [if_pos h1]), rfl, rfl⟩
    · refine p_iload_n (z_dec zd_X5_isKind 2 rfl) rfl 0 rfl (n := 5) rfl ?_
      refine p_bipush (z_dec zd_X5_isKind 3 rfl) (v := 8) (by decide) (n := 7) rfl ?_
      refine p_icmp_ge (z_dec zd_X5_isKind 4 rfl) (t := 14) (by decide) (n := 10) rfl (fun h7 => ?_) (fun h7 => ?_)
      · refine p_iconst (z_dec zd_X5_isKind 7 rfl) (v := 0) (by decide) (n := 15) rfl ?_
        exact p_zret (z_dec zd_X5_isKind 8 rfl) rfl (Or.inl rfl) ⟨(by unfold f_X5_isKind; rw [if_neg h1, if_pos h7]), rfl, rfl⟩
      · refine p_iconst (z_dec zd_X5_isKind 5 rfl) (v := 1) (by decide) (n := 11) rfl ?_
        refine p_goto (z_dec zd_X5_isKind 6 rfl) (t := 15) (by decide) ?_
        exact p_zret (z_dec zd_X5_isKind 8 rfl) rfl (Or.inr rfl) ⟨(by unfold f_X5_isKind; rw [if_neg h1, if_neg h7]), rfl, rfl⟩
  exact hentry
theorem fb_X5_isKind (kind : Int32) : f_X5_isKind kind = 0 ∨ f_X5_isKind kind = 1 := by
  unfold f_X5_isKind
  (repeat' split) <;> first | exact Or.inl rfl | exact Or.inr rfl
theorem z_isk {x : Int32} (h : ¬ f_X5_isKind x = 0) : x = nI x.toNatClampNeg ∧ x.toNatClampNeg < 8 := by
  unfold f_X5_isKind at h
  by_cases h1 : x < 0
  · rw [if_pos h1] at h; exact absurd rfl h
  · rw [if_neg h1] at h
    by_cases h2 : 8 ≤ x
    · rw [if_pos h2] at h; exact absurd rfl h
    · exact z_inN (N := 8) h1 h2 (by omega)
def gx_X5_isUnder_4 (above : Int32) : Nat → Nat → (Int32) → Int32
  | 0, t4, v2 => 0
  | r4 + 1, t4, v2 => if (f_X5_isKind v2) = 0 then 0 else if v2 = above then 1 else gx_X5_isUnder_4 above r4 (t4 + 1) (z_t1 v2.toNatClampNeg)
def f_X5_isUnder (kind : Int32) (above : Int32) : Int32 := (gx_X5_isUnder_4 above 8 0 kind)
set_option maxHeartbeats 4000000 in
set_option maxRecDepth 100000 in
theorem c_X5_isUnder (d : Nat) (hd : 1 ≤ d) (b : Bool) (I : Nat → Nat → Int32) (L : Nat → Nat → Int64) (kind : Int32) (above : Int32) : z_CT zm_X5_isUnder d [.int kind, .int above] SH (I, L, z_R b) 0 0 (z_ret (some (.int (f_X5_isUnder kind above))) (I, L, z_R b)) := by
  refine z_enter (by decide +kernel) (Nat.le_of_ble_eq_true rfl) ?_
  have hentry : PW zm_X5_isUnder d 0 [(0, .int kind), (1, .int above)] [] SH (I, L, z_R b) 0 0 (z_ret (some (.int (f_X5_isUnder kind above))) (I, L, z_R b)) := by
    refine p_iload_n (z_dec zd_X5_isUnder 0 rfl) rfl 0 rfl (n := 1) rfl ?_
    refine p_istore_n (z_dec zd_X5_isUnder 1 rfl) rfl (lv2 := [(2, .int kind), (0, .int kind), (1, .int above)]) (by decide) rfl (n := 2) rfl ?_
    refine p_iconst (z_dec zd_X5_isUnder 2 rfl) (v := 0) (by decide) (n := 3) rfl ?_
    refine p_istore_n (z_dec zd_X5_isUnder 3 rfl) rfl (lv2 := [(3, .int 0), (2, .int kind), (0, .int kind), (1, .int above)]) (by decide) rfl (n := 4) rfl ?_
    have hL4 : ∀ (r4 t4 : Nat) (v2 : Int32), t4 + r4 = 8 → PW zm_X5_isUnder d 4 [(3, .int (nI t4)), (2, .int v2), (0, .int kind), (1, .int above)] [] SH (I, L, z_R b) 0 0 (z_ret (some (.int (gx_X5_isUnder_4 above r4 t4 v2))) (I, L, z_R b)) := by
      intro r4
      induction r4 with
      | zero =>
        intro t4 v2 ht4
        refine p_iload_n (z_dec zd_X5_isUnder 4 rfl) rfl 0 rfl (n := 5) rfl ?_
        refine p_bipush (z_dec zd_X5_isUnder 5 rfl) (v := 8) (by decide) (n := 7) rfl ?_
        refine p_icmp_ge (z_dec zd_X5_isUnder 6 rfl) (t := 36) (by decide) (n := 10) rfl (fun h7 => ?_) (fun h7 => ?_)
        · refine p_iconst (z_dec zd_X5_isUnder 21 rfl) (v := 0) (by decide) (n := 37) rfl ?_
          exact p_zret (z_dec zd_X5_isUnder 22 rfl) rfl (Or.inl rfl) ⟨rfl, rfl, rfl⟩
        · exact absurd (z_nge (a := 8) h7) (by omega)
      | succ r4 ih4 =>
        intro t4 v2 ht4
        refine p_iload_n (z_dec zd_X5_isUnder 4 rfl) rfl 0 rfl (n := 5) rfl ?_
        refine p_bipush (z_dec zd_X5_isUnder 5 rfl) (v := 8) (by decide) (n := 7) rfl ?_
        refine p_icmp_ge (z_dec zd_X5_isUnder 6 rfl) (t := 36) (by decide) (n := 10) rfl (fun h7 => ?_) (fun h7 => ?_)
        · exact absurd (z_ge (a := 8) h7) (by omega)
        · have hx4 : t4 < 8 := by omega
          refine p_iload_n (z_dec zd_X5_isUnder 7 rfl) rfl 1 rfl (n := 11) rfl ?_
          refine q_callS (As := [.int v2]) (rest := []) (z_dec zd_X5_isUnder 8 rfl) zk_X5_28 zs_X5_isKind (c_X5_isKind (d - 1) (by omega) b I L v2) rfl rfl (Nat.le_of_ble_eq_true rfl) (by omega) (n := 14) rfl ?_
          show PW zm_X5_isUnder d 14 [(3, .int (nI t4)), (2, .int v2), (0, .int kind), (1, .int above)] [.int (f_X5_isKind v2)] SH (I, L, z_R b) 0 0 _
          refine p_if_eq (z_dec zd_X5_isUnder 9 rfl) (t := 36) (by decide) (n := 17) rfl (fun h14 => ?_) (fun h14 => ?_)
          · refine p_iconst (z_dec zd_X5_isUnder 21 rfl) (v := 0) (by decide) (n := 37) rfl ?_
            exact p_zret (z_dec zd_X5_isUnder 22 rfl) rfl (Or.inl rfl) ⟨(by (conv => rhs; unfold gx_X5_isUnder_4); rw [if_pos h14]), rfl, rfl⟩
          · have hj := z_isk h14
            refine p_iload_n (z_dec zd_X5_isUnder 10 rfl) rfl 1 rfl (n := 18) rfl ?_
            refine p_iload_n (z_dec zd_X5_isUnder 11 rfl) rfl 3 rfl (n := 19) rfl ?_
            refine p_icmp_ne (z_dec zd_X5_isUnder 12 rfl) (t := 24) (by decide) (n := 22) rfl (fun h19 => ?_) (fun h19 => ?_)
            · refine p_gets1 (z_dec zd_X5_isUnder 15 rfl) zg_X5_32 (n := 27) rfl ?_
              refine p_iload_n (z_dec zd_X5_isUnder 16 rfl) rfl 1 rfl (n := 28) rfl ?_
              refine q_tld1 (z_dec zd_X5_isUnder 17 rfl) (v2.toNatClampNeg) hj.1 hj.2 (n := 29) rfl ?_
              refine p_istore_n (z_dec zd_X5_isUnder 18 rfl) rfl (lv2 := [(2, .int (z_t1 v2.toNatClampNeg)), (3, .int (nI t4)), (0, .int kind), (1, .int above)]) (by decide) rfl (n := 30) rfl ?_
              refine p_iinc (z_dec zd_X5_isUnder 19 rfl) 1 rfl (v := (nI (t4 + 1))) (nI_1 _) (lv2 := [(3, .int (nI (t4 + 1))), (2, .int (z_t1 v2.toNatClampNeg)), (0, .int kind), (1, .int above)]) (by decide) rfl (n := 33) rfl ?_
              refine p_goto (z_dec zd_X5_isUnder 20 rfl) (t := 4) (by decide) ?_
              rw [show gx_X5_isUnder_4 above (r4 + 1) t4 v2 = gx_X5_isUnder_4 above r4 (t4 + 1) (z_t1 v2.toNatClampNeg) from by (conv => lhs; unfold gx_X5_isUnder_4); rw [if_neg h14, if_neg h19]]
              exact ih4 (t4 + 1) (z_t1 v2.toNatClampNeg) (by omega)
            · refine p_iconst (z_dec zd_X5_isUnder 13 rfl) (v := 1) (by decide) (n := 23) rfl ?_
              exact p_zret (z_dec zd_X5_isUnder 14 rfl) rfl (Or.inr rfl) ⟨(by (conv => rhs; unfold gx_X5_isUnder_4); rw [if_neg h14, if_pos h19]), rfl, rfl⟩
    exact (by have q := (hL4 8 0 kind (by omega)); (rw [show f_X5_isUnder kind above = _ from by unfold f_X5_isUnder; rfl]); exact q)
  exact hentry
def f_X5_has (I : Nat → Nat → Int32) (st : Int32) : Int32 := if st < 0 then 0 else if (I 38 1) ≤ st then 0 else 1
set_option maxHeartbeats 4000000 in
set_option maxRecDepth 100000 in
theorem c_X5_has (d : Nat) (hd : 0 ≤ d) (b : Bool) (I : Nat → Nat → Int32) (L : Nat → Nat → Int64) (st : Int32) : z_CT zm_X5_has d [.ref 38, .int st] SH (I, L, z_R b) 0 0 (z_ret (some (.int (f_X5_has I st))) (I, L, z_R b)) := by
  refine z_enter (by decide +kernel) (Nat.le_of_ble_eq_true rfl) ?_
  have hentry : PW zm_X5_has d 0 [(0, .ref 38), (1, .int st)] [] SH (I, L, z_R b) 0 0 (z_ret (some (.int (f_X5_has I st))) (I, L, z_R b)) := by
    refine p_iload_n (z_dec zd_X5_has 0 rfl) rfl 1 rfl (n := 1) rfl ?_
    refine p_if_lt (z_dec zd_X5_has 1 rfl) (t := 16) (by decide) (n := 4) rfl (fun h1 => ?_) (fun h1 => ?_)
    · refine p_iconst (z_dec zd_X5_has 8 rfl) (v := 0) (by decide) (n := 17) rfl ?_
      exact p_zret (z_dec zd_X5_has 9 rfl) rfl (Or.inl rfl) ⟨(by unfold f_X5_has; rw [if_pos h1]), rfl, rfl⟩
    · refine p_iload_n (z_dec zd_X5_has 2 rfl) rfl 1 rfl (n := 5) rfl ?_
      refine p_aload_n (z_dec zd_X5_has 3 rfl) rfl 0 rfl (n := 6) rfl ?_
      refine q_getI (z_dec zd_X5_has 4 rfl) zf_X5_15 (by decide) rfl (v := (I 38 1)) rfl (n := 9) rfl ?_
      refine p_icmp_ge (z_dec zd_X5_has 5 rfl) (t := 16) (by decide) (n := 12) rfl (fun h9 => ?_) (fun h9 => ?_)
      · refine p_iconst (z_dec zd_X5_has 8 rfl) (v := 0) (by decide) (n := 17) rfl ?_
        exact p_zret (z_dec zd_X5_has 9 rfl) rfl (Or.inl rfl) ⟨(by unfold f_X5_has; rw [if_neg h1, if_pos h9]), rfl, rfl⟩
      · refine p_iconst (z_dec zd_X5_has 6 rfl) (v := 1) (by decide) (n := 13) rfl ?_
        refine p_goto (z_dec zd_X5_has 7 rfl) (t := 17) (by decide) ?_
        exact p_zret (z_dec zd_X5_has 9 rfl) rfl (Or.inr rfl) ⟨(by unfold f_X5_has; rw [if_neg h1, if_neg h9]), rfl, rfl⟩
  exact hentry
theorem fb_X5_has (I : Nat → Nat → Int32) (st : Int32) : f_X5_has I st = 0 ∨ f_X5_has I st = 1 := by
  unfold f_X5_has
  (repeat' split) <;> first | exact Or.inl rfl | exact Or.inr rfl
def f_X5_add (I : Nat → Nat → Int32) (sz : Nat) (kind : Int32) : Int32 := if (nI sz) < 50 then (nI sz) else (-3)
def m_X5_add (I : Nat → Nat → Int32) (sz : Nat) (kind : Int32) : Nat → Nat → Int32 := if (nI sz) < 50 then (z_up (z_up I 39 sz kind) 38 1 ((nI sz) + 1)) else I
set_option maxHeartbeats 4000000 in
set_option maxRecDepth 100000 in
theorem c_X5_add (d : Nat) (hd : 0 ≤ d) (b : Bool) (I : Nat → Nat → Int32) (L : Nat → Nat → Int64) (sz : Nat) (hsz : I 38 1 = nI sz) (hs50 : sz ≤ 50) (kind : Int32) : z_CT zm_X5_add d [.ref 38, .int kind] SH (I, L, z_R b) 0 0 (z_ret (some (.int (f_X5_add I sz kind))) ((m_X5_add I sz kind), L, z_R b)) := by
  refine z_enter (by decide +kernel) (Nat.le_of_ble_eq_true rfl) ?_
  have hentry : PW zm_X5_add d 0 [(0, .ref 38), (1, .int kind)] [] SH (I, L, z_R b) 0 0 (z_ret (some (.int (f_X5_add I sz kind))) ((m_X5_add I sz kind), L, z_R b)) := by
    refine p_aload_n (z_dec zd_X5_add 0 rfl) rfl 0 rfl (n := 1) rfl ?_
    refine q_getI (z_dec zd_X5_add 1 rfl) zf_X5_15 (by decide) rfl (v := (nI sz)) hsz (n := 4) rfl ?_
    refine p_bipush (z_dec zd_X5_add 2 rfl) (v := 50) (by decide) (n := 6) rfl ?_
    refine p_icmp_lt (z_dec zd_X5_add 3 rfl) (t := 12) (by decide) (n := 9) rfl (fun h6 => ?_) (fun h6 => ?_)
    · have hl : sz < 50 := z_lt (b := 50) h6
      refine p_aload_n (z_dec zd_X5_add 6 rfl) rfl 0 rfl (n := 13) rfl ?_
      refine q_getR (z_dec zd_X5_add 7 rfl) zf_X5_11 (i := 39) rfl rfl (n := 16) rfl ?_
      refine p_aload_n (z_dec zd_X5_add 8 rfl) rfl 0 rfl (n := 17) rfl ?_
      refine q_getI (z_dec zd_X5_add 9 rfl) zf_X5_15 (by decide) rfl (v := (nI sz)) hsz (n := 20) rfl ?_
      refine p_iload_n (z_dec zd_X5_add 10 rfl) rfl 1 rfl (n := 21) rfl ?_
      refine q_iast (z_dec zd_X5_add 11 rfl) rfl (by decide) (sz) rfl (by omega) (n := 22) rfl ?_
      refine p_aload_n (z_dec zd_X5_add 12 rfl) rfl 0 rfl (n := 23) rfl ?_
      refine p_dup (z_dec zd_X5_add 13 rfl) rfl (n := 24) rfl ?_
      refine q_getI (z_dec zd_X5_add 14 rfl) zf_X5_15 (by decide) rfl (v := (nI sz)) hsz (n := 27) rfl ?_
      refine p_dup_x1 (z_dec zd_X5_add 15 rfl) rfl rfl (n := 28) rfl ?_
      refine p_iconst (z_dec zd_X5_add 16 rfl) (v := 1) (by decide) (n := 29) rfl ?_
      refine p_iadd (z_dec zd_X5_add 17 rfl) (n := 30) rfl ?_
      refine q_putI (z_dec zd_X5_add 18 rfl) zp_X5_15 (fun q => by cases q) rfl (n := 33) rfl ?_
      exact p_iret (z_dec zd_X5_add 19 rfl) rfl ⟨(by unfold f_X5_add; rw [if_pos h6]), rfl, (z_3 (by unfold m_X5_add; rw [if_pos h6]) rfl)⟩
    · refine p_bipush (z_dec zd_X5_add 4 rfl) (v := (-3)) (by decide) (n := 11) rfl ?_
      exact p_iret (z_dec zd_X5_add 5 rfl) rfl ⟨(by unfold f_X5_add; rw [if_neg h6]), rfl, (z_3 (by unfold m_X5_add; rw [if_neg h6]) rfl)⟩
  exact hentry
def f_X5_tracedAt (I : Nat → Nat → Int32) (i : Int32) : Int32 := if i < 0 then (-1) else if (I 38 3) ≤ i then (-1) else if 24 ≤ i then (-1) else (I 40 i.toNatClampNeg)
set_option maxHeartbeats 4000000 in
set_option maxRecDepth 100000 in
theorem c_X5_tracedAt (d : Nat) (hd : 0 ≤ d) (b : Bool) (I : Nat → Nat → Int32) (L : Nat → Nat → Int64) (i : Int32) : z_CT zm_X5_tracedAt d [.ref 38, .int i] SH (I, L, z_R b) 0 0 (z_ret (some (.int (f_X5_tracedAt I i))) (I, L, z_R b)) := by
  refine z_enter (by decide +kernel) (Nat.le_of_ble_eq_true rfl) ?_
  have hentry : PW zm_X5_tracedAt d 0 [(0, .ref 38), (1, .int i)] [] SH (I, L, z_R b) 0 0 (z_ret (some (.int (f_X5_tracedAt I i))) (I, L, z_R b)) := by
    refine p_iload_n (z_dec zd_X5_tracedAt 0 rfl) rfl 1 rfl (n := 1) rfl ?_
    refine p_if_lt (z_dec zd_X5_tracedAt 1 rfl) (t := 27) (by decide) (n := 4) rfl (fun h1 => ?_) (fun h1 => ?_)
    · refine p_iconst (z_dec zd_X5_tracedAt 14 rfl) (v := (-1)) (by decide) (n := 28) rfl ?_
      exact p_iret (z_dec zd_X5_tracedAt 15 rfl) rfl ⟨(by unfold f_X5_tracedAt; rw [if_pos h1]), rfl, rfl⟩
    · refine p_iload_n (z_dec zd_X5_tracedAt 2 rfl) rfl 1 rfl (n := 5) rfl ?_
      refine p_aload_n (z_dec zd_X5_tracedAt 3 rfl) rfl 0 rfl (n := 6) rfl ?_
      refine q_getI (z_dec zd_X5_tracedAt 4 rfl) zf_X5_22 (by decide) rfl (v := (I 38 3)) rfl (n := 9) rfl ?_
      refine p_icmp_ge (z_dec zd_X5_tracedAt 5 rfl) (t := 27) (by decide) (n := 12) rfl (fun h9 => ?_) (fun h9 => ?_)
      · refine p_iconst (z_dec zd_X5_tracedAt 14 rfl) (v := (-1)) (by decide) (n := 28) rfl ?_
        exact p_iret (z_dec zd_X5_tracedAt 15 rfl) rfl ⟨(by unfold f_X5_tracedAt; rw [if_neg h1, if_pos h9]), rfl, rfl⟩
      · refine p_iload_n (z_dec zd_X5_tracedAt 6 rfl) rfl 1 rfl (n := 13) rfl ?_
        refine p_bipush (z_dec zd_X5_tracedAt 7 rfl) (v := 24) (by decide) (n := 15) rfl ?_
        refine p_icmp_ge (z_dec zd_X5_tracedAt 8 rfl) (t := 27) (by decide) (n := 18) rfl (fun h15 => ?_) (fun h15 => ?_)
        · refine p_iconst (z_dec zd_X5_tracedAt 14 rfl) (v := (-1)) (by decide) (n := 28) rfl ?_
          exact p_iret (z_dec zd_X5_tracedAt 15 rfl) rfl ⟨(by unfold f_X5_tracedAt; rw [if_neg h1, if_neg h9, if_pos h15]), rfl, rfl⟩
        · have hj := z_in24 h1 h15
          refine p_aload_n (z_dec zd_X5_tracedAt 9 rfl) rfl 0 rfl (n := 19) rfl ?_
          refine q_getR (z_dec zd_X5_tracedAt 10 rfl) zf_X5_19 (i := 40) rfl rfl (n := 22) rfl ?_
          refine p_iload_n (z_dec zd_X5_tracedAt 11 rfl) rfl 1 rfl (n := 23) rfl ?_
          refine q_iald (z_dec zd_X5_tracedAt 12 rfl) rfl (by decide) (i.toNatClampNeg) hj.1 hj.2 (v := (I 40 i.toNatClampNeg)) rfl (n := 24) rfl ?_
          refine p_goto (z_dec zd_X5_tracedAt 13 rfl) (t := 28) (by decide) ?_
          exact p_iret (z_dec zd_X5_tracedAt 15 rfl) rfl ⟨(by unfold f_X5_tracedAt; rw [if_neg h1, if_neg h9, if_neg h15]), rfl, rfl⟩
  exact hentry
