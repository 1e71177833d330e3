theorem p_mmaxL {mi : z_Mi} {d pc n : Nat} {lv : List (Nat × Value)} {st : List Value} {sh : z_Sh} {μ : z_M} {mc ms : Nat} {E : Option Value → z_Sh → z_M → Prop} {idx : Nat} {x y : Int64} (hd : decode mi.2.1 pc = .ok (.invokestatic idx, 3)) (hlk : z_lk mi.1.cls idx zm_J9_max_f86c9 2) (hdd : 1 ≤ d) (hrest : (st.map fun v => v.category).sum ≤ 8) (hn : pc + 3 = n) (h : PW mi d n lv (.long (if y < x then x else y) :: st) sh μ mc ms E) : PW mi d pc lv (.long y :: .long x :: st) sh μ mc ms E := by
  subst hn
  intro p l e R s m args below meth c Q D base tb cs MC MS H locs cells slots ls hA hR hW hS hc hs hX hl
  obtain ⟨hx, hb, hml, hown, hts, hnm, hfr, hlo, hMC, hMS, hF⟩ := id hA
  exact va_mmax_long hx hb (hml.trans hl.1.symm) hown (hts _ hlk.1) (hts _ zs_J9_max_f86c9) (hts _ zn_J9) (hts _ zw_J9_max_f86c9) (by omega) (by rw [z_rest]; omega) (by omega) (by omega) hd (h p l e R s m args below meth c Q D base tb cs MC MS H locs cells slots ls hA hR hW hS hc hs hX hl)
theorem z_mx1 (x : Int64) : ¬ (if x < 1 then 1 else x) = 0 := by
  by_cases h : x < 1
  · rw [if_pos h]; decide
  · rw [if_neg h]
    intro q
    rw [q] at h
    exact h (by decide)
theorem z_drO (I : Nat → Nat → Int32) (k a j : Nat) (h : a ≠ k ∨ j ≠ 6) : m_X7_draw I k a j = I a j := by
  unfold m_X7_draw
  rcases h with h | h
  · exact z_up_k _ _ h
  · by_cases q : a = k
    · subst q; exact z_up_j _ _ h
    · exact z_up_k _ _ q
theorem z_canU {I : Nat → Nat → Int32} {k : Nat} {one other umpire : Int32} (h : ¬ f_X7_canHold I k one other umpire = 0) : ¬ f_X7_areUnlike I k one other umpire = 0 := by
  intro q
  unfold f_X7_canHold at h
  rw [if_pos q] at h
  exact h rfl
def gx_X8_lowest_25 (above : Int64) (below : Int64) (part : Int32) : Nat → Nat → (Int64) → (Int64) → Int64
  | 0, t25, v5, v7 => if part = 0 then (above / (if v5 < 1 then 1 else v5)) else (below / (if v5 < 1 then 1 else v5))
  | r25 + 1, t25, v5, v7 => if (lg_cmp v7 0) = 0 then if part = 0 then (above / (if v5 < 1 then 1 else v5)) else (below / (if v5 < 1 then 1 else v5)) else gx_X8_lowest_25 above below part r25 (t25 + 1) v7 (v5 - v5 / v7 * v7)
def f_X8_lowest (above : Int64) (below : Int64) (part : Int32) : Int64 := if (lg_cmp below 0) ≤ 0 then (part.toInt64) else if 0 ≤ (lg_cmp above 0) then (gx_X8_lowest_25 above below part 100 0 below above) else (part.toInt64)
set_option maxHeartbeats 4000000 in
set_option maxRecDepth 100000 in
theorem c_X8_lowest (d : Nat) (hd : 1 ≤ d) (b : Bool) (I : Nat → Nat → Int32) (L : Nat → Nat → Int64) (above : Int64) (below : Int64) (part : Int32) : z_CT zm_X8_lowest d [.long above, .long below, .int part] SH (I, L, z_R b) 0 0 (z_ret (some (.long (f_X8_lowest above below part))) (I, L, z_R b)) := by
  refine z_enter (by decide +kernel) (Nat.le_of_ble_eq_true rfl) ?_
  have hentry : PW zm_X8_lowest d 0 [(0, .long above), (2, .long below), (4, .int part)] [] SH (I, L, z_R b) 0 0 (z_ret (some (.long (f_X8_lowest above below part))) (I, L, z_R b)) := by
    refine p_lload_n (z_dec zd_X8_lowest 0 rfl) rfl 1 rfl (n := 1) rfl ?_
    refine p_lconst (z_dec zd_X8_lowest 1 rfl) (v := 0) (by decide) (n := 2) rfl ?_
    refine p_lcmp (z_dec zd_X8_lowest 2 rfl) (n := 3) rfl ?_
    refine p_if_le (z_dec zd_X8_lowest 3 rfl) (t := 12) (by decide) (n := 6) rfl (fun h3 => ?_) (fun h3 => ?_)
    · refine p_iload (z_dec zd_X8_lowest 8 rfl) 2 rfl (n := 14) rfl ?_
      refine p_i2l (z_dec zd_X8_lowest 9 rfl) (n := 15) rfl ?_
      exact p_lret (z_dec zd_X8_lowest 10 rfl) rfl ⟨(by unfold f_X8_lowest; rw [if_pos h3]), rfl, rfl⟩
    · refine p_lload_n (z_dec zd_X8_lowest 4 rfl) rfl 0 rfl (n := 7) rfl ?_
      refine p_lconst (z_dec zd_X8_lowest 5 rfl) (v := 0) (by decide) (n := 8) rfl ?_
      refine p_lcmp (z_dec zd_X8_lowest 6 rfl) (n := 9) rfl ?_
      refine p_if_ge (z_dec zd_X8_lowest 7 rfl) (t := 16) (by decide) (n := 12) rfl (fun h9 => ?_) (fun h9 => ?_)
      · refine p_lload_n (z_dec zd_X8_lowest 11 rfl) rfl 1 rfl (n := 17) rfl ?_
        refine p_lstore (z_dec zd_X8_lowest 12 rfl) (lv2 := [(5, .long below), (0, .long above), (2, .long below), (4, .int part)]) (by decide) rfl (n := 19) rfl ?_
        refine p_lload_n (z_dec zd_X8_lowest 13 rfl) rfl 1 rfl (n := 20) rfl ?_
        refine p_lstore (z_dec zd_X8_lowest 14 rfl) (lv2 := [(7, .long above), (5, .long below), (0, .long above), (2, .long below), (4, .int part)]) (by decide) rfl (n := 22) rfl ?_
        refine p_iconst (z_dec zd_X8_lowest 15 rfl) (v := 0) (by decide) (n := 23) rfl ?_
        refine p_istore (z_dec zd_X8_lowest 16 rfl) (lv2 := [(9, .int 0), (7, .long above), (5, .long below), (0, .long above), (2, .long below), (4, .int part)]) (by decide) rfl (n := 25) rfl ?_
        have hL25 : ∀ (r25 t25 : Nat) (v5 : Int64) (v7 : Int64), t25 + r25 = 100 → PW zm_X8_lowest d 25 [(9, .int (nI t25)), (7, .long v7), (5, .long v5), (0, .long above), (2, .long below), (4, .int part)] [] SH (I, L, z_R b) 0 0 (z_ret (some (.long (gx_X8_lowest_25 above below part r25 t25 v5 v7))) (I, L, z_R b)) := by
          intro r25
          induction r25 with
          | zero =>
            intro t25 v5 v7 ht25
            refine p_iload (z_dec zd_X8_lowest 17 rfl) 0 rfl (n := 27) rfl ?_
            refine p_bipush (z_dec zd_X8_lowest 18 rfl) (v := 100) (by decide) (n := 29) rfl ?_
            refine p_icmp_ge (z_dec zd_X8_lowest 19 rfl) (t := 60) (by decide) (n := 32) rfl (fun h29 => ?_) (fun h29 => ?_)
            · refine p_iload (z_dec zd_X8_lowest 34 rfl) 5 rfl (n := 62) rfl ?_
              refine p_if_ne (z_dec zd_X8_lowest 35 rfl) (t := 69) (by decide) (n := 65) rfl (fun h62 => ?_) (fun h62 => ?_)
              · refine p_lload_n (z_dec zd_X8_lowest 38 rfl) rfl 4 rfl (n := 70) rfl ?_
                refine p_lconst (z_dec zd_X8_lowest 39 rfl) (v := 1) (by decide) (n := 71) rfl ?_
                refine p_lload (z_dec zd_X8_lowest 40 rfl) 2 rfl (n := 73) rfl ?_
                refine p_mmaxL (z_dec zd_X8_lowest 41 rfl) zk_X8_340 (by omega) (Nat.le_of_ble_eq_true rfl) (n := 76) rfl ?_
                refine p_ldiv (z_dec zd_X8_lowest 42 rfl) (z_mx1 _) (n := 77) rfl ?_
                exact p_lret (z_dec zd_X8_lowest 43 rfl) rfl ⟨(by (conv => rhs; unfold gx_X8_lowest_25); rw [if_neg h62]), rfl, rfl⟩
              · refine p_lload_n (z_dec zd_X8_lowest 36 rfl) rfl 3 rfl (n := 66) rfl ?_
                refine p_goto (z_dec zd_X8_lowest 37 rfl) (t := 70) (by decide) ?_
                refine p_lconst (z_dec zd_X8_lowest 39 rfl) (v := 1) (by decide) (n := 71) rfl ?_
                refine p_lload (z_dec zd_X8_lowest 40 rfl) 2 rfl (n := 73) rfl ?_
                refine p_mmaxL (z_dec zd_X8_lowest 41 rfl) zk_X8_340 (by omega) (Nat.le_of_ble_eq_true rfl) (n := 76) rfl ?_
                refine p_ldiv (z_dec zd_X8_lowest 42 rfl) (z_mx1 _) (n := 77) rfl ?_
                exact p_lret (z_dec zd_X8_lowest 43 rfl) rfl ⟨(by (conv => rhs; unfold gx_X8_lowest_25); rw [if_pos h62]), rfl, rfl⟩
            · exact absurd (z_nge (a := 100) h29) (by omega)
          | succ r25 ih25 =>
            intro t25 v5 v7 ht25
            refine p_iload (z_dec zd_X8_lowest 17 rfl) 0 rfl (n := 27) rfl ?_
            refine p_bipush (z_dec zd_X8_lowest 18 rfl) (v := 100) (by decide) (n := 29) rfl ?_
            refine p_icmp_ge (z_dec zd_X8_lowest 19 rfl) (t := 60) (by decide) (n := 32) rfl (fun h29 => ?_) (fun h29 => ?_)
            · exact absurd (z_ge (a := 100) h29) (by omega)
            · have hx25 : t25 < 100 := by omega
              refine p_lload (z_dec zd_X8_lowest 20 rfl) 1 rfl (n := 34) rfl ?_
              refine p_lconst (z_dec zd_X8_lowest 21 rfl) (v := 0) (by decide) (n := 35) rfl ?_
              refine p_lcmp (z_dec zd_X8_lowest 22 rfl) (n := 36) rfl ?_
              refine p_if_eq (z_dec zd_X8_lowest 23 rfl) (t := 60) (by decide) (n := 39) rfl (fun h36 => ?_) (fun h36 => ?_)
              · refine p_iload (z_dec zd_X8_lowest 34 rfl) 5 rfl (n := 62) rfl ?_
                refine p_if_ne (z_dec zd_X8_lowest 35 rfl) (t := 69) (by decide) (n := 65) rfl (fun h62 => ?_) (fun h62 => ?_)
                · refine p_lload_n (z_dec zd_X8_lowest 38 rfl) rfl 4 rfl (n := 70) rfl ?_
                  refine p_lconst (z_dec zd_X8_lowest 39 rfl) (v := 1) (by decide) (n := 71) rfl ?_
                  refine p_lload (z_dec zd_X8_lowest 40 rfl) 2 rfl (n := 73) rfl ?_
                  refine p_mmaxL (z_dec zd_X8_lowest 41 rfl) zk_X8_340 (by omega) (Nat.le_of_ble_eq_true rfl) (n := 76) rfl ?_
                  refine p_ldiv (z_dec zd_X8_lowest 42 rfl) (z_mx1 _) (n := 77) rfl ?_
                  exact p_lret (z_dec zd_X8_lowest 43 rfl) rfl ⟨(by (conv => rhs; unfold gx_X8_lowest_25); rw [if_pos h36, if_neg h62]), rfl, rfl⟩
                · refine p_lload_n (z_dec zd_X8_lowest 36 rfl) rfl 3 rfl (n := 66) rfl ?_
                  refine p_goto (z_dec zd_X8_lowest 37 rfl) (t := 70) (by decide) ?_
                  refine p_lconst (z_dec zd_X8_lowest 39 rfl) (v := 1) (by decide) (n := 71) rfl ?_
                  refine p_lload (z_dec zd_X8_lowest 40 rfl) 2 rfl (n := 73) rfl ?_
                  refine p_mmaxL (z_dec zd_X8_lowest 41 rfl) zk_X8_340 (by omega) (Nat.le_of_ble_eq_true rfl) (n := 76) rfl ?_
                  refine p_ldiv (z_dec zd_X8_lowest 42 rfl) (z_mx1 _) (n := 77) rfl ?_
                  exact p_lret (z_dec zd_X8_lowest 43 rfl) rfl ⟨(by (conv => rhs; unfold gx_X8_lowest_25); rw [if_pos h36, if_pos h62]), rfl, rfl⟩
              · refine p_lload (z_dec zd_X8_lowest 24 rfl) 2 rfl (n := 41) rfl ?_
                refine p_lload (z_dec zd_X8_lowest 25 rfl) 1 rfl (n := 43) rfl ?_
                refine p_lrem (z_dec zd_X8_lowest 26 rfl) (fun q => h36 ((lg_cmp_eq _ _).mpr q)) (n := 44) rfl ?_
                refine p_lstore (z_dec zd_X8_lowest 27 rfl) (lv2 := [(10, .long (v5 - v5 / v7 * v7)), (9, .int (nI t25)), (7, .long v7), (5, .long v5), (0, .long above), (2, .long below), (4, .int part)]) (by decide) rfl (n := 46) rfl ?_
                refine p_lload (z_dec zd_X8_lowest 28 rfl) 2 rfl (n := 48) rfl ?_
                refine p_lstore (z_dec zd_X8_lowest 29 rfl) (lv2 := [(5, .long v7), (10, .long (v5 - v5 / v7 * v7)), (9, .int (nI t25)), (7, .long v7), (0, .long above), (2, .long below), (4, .int part)]) (by decide) rfl (n := 50) rfl ?_
                refine p_lload (z_dec zd_X8_lowest 30 rfl) 1 rfl (n := 52) rfl ?_
                refine p_lstore (z_dec zd_X8_lowest 31 rfl) (lv2 := [(7, .long (v5 - v5 / v7 * v7)), (5, .long v7), (10, .long (v5 - v5 / v7 * v7)), (9, .int (nI t25)), (0, .long above), (2, .long below), (4, .int part)]) (by decide) rfl (n := 54) rfl ?_
                refine p_iinc (z_dec zd_X8_lowest 32 rfl) 3 rfl (v := (nI (t25 + 1))) (nI_1 _) (lv2 := [(9, .int (nI (t25 + 1))), (7, .long (v5 - v5 / v7 * v7)), (5, .long v7), (10, .long (v5 - v5 / v7 * v7)), (0, .long above), (2, .long below), (4, .int part)]) (by decide) rfl (n := 57) rfl ?_
                refine p_goto (z_dec zd_X8_lowest 33 rfl) (t := 25) (by decide) ?_
                refine z_sub (lv' := [(9, .int (nI (t25 + 1))), (7, .long (v5 - v5 / v7 * v7)), (5, .long v7), (0, .long above), (2, .long below), (4, .int part)]) [0, 1, 2, 4, 5, 6] rfl ?_
                rw [show gx_X8_lowest_25 above below part (r25 + 1) t25 v5 v7 = gx_X8_lowest_25 above below part r25 (t25 + 1) v7 (v5 - v5 / v7 * v7) from by (conv => lhs; unfold gx_X8_lowest_25); rw [if_neg h36]]
                exact ih25 (t25 + 1) v7 (v5 - v5 / v7 * v7) (by omega)
        exact (by have q := (hL25 100 0 below above (by omega)); (rw [show f_X8_lowest above below part = _ from by unfold f_X8_lowest; rw [if_neg h3, if_pos h9]]); exact q)
      · refine p_iload (z_dec zd_X8_lowest 8 rfl) 2 rfl (n := 14) rfl ?_
        refine p_i2l (z_dec zd_X8_lowest 9 rfl) (n := 15) rfl ?_
        exact p_lret (z_dec zd_X8_lowest 10 rfl) rfl ⟨(by unfold f_X8_lowest; rw [if_neg h3, if_neg h9]), rfl, rfl⟩
  exact hentry
def f_X8_match (b : Bool) (I : Nat → Nat → Int32) (sz : Nat) (abu : Int32) : Int32 := if (f_X8_isThree I abu) = 0 then (-1) else if (f_X7_canHold I 1 (abu / 100) ((abu / 10) - (abu / 10) / 10 * 10) (abu - abu / 10 * 10)) = 0 then (-5) else if (f_X1_oddsOn b (m_X7_draw I 1) sz 1 (abu / 100) ((abu / 10) - (abu / 10) / 10 * 10) (abu - abu / 10 * 10)) ≤ (f_X7_draw I 1) then 0 else 1
def m_X8_match (b : Bool) (I : Nat → Nat → Int32) (sz : Nat) (abu : Int32) : Nat → Nat → Int32 := if (f_X8_isThree I abu) = 0 then I else if (f_X7_canHold I 1 (abu / 100) ((abu / 10) - (abu / 10) / 10 * 10) (abu - abu / 10 * 10)) = 0 then I else if (f_X1_oddsOn b (m_X7_draw I 1) sz 1 (abu / 100) ((abu / 10) - (abu / 10) / 10 * 10) (abu - abu / 10 * 10)) ≤ (f_X7_draw I 1) then (z_up (z_up (m_X7_settle (m_X1_oddsOn b (m_X7_draw I 1) sz 1 (abu / 100) ((abu / 10) - (abu / 10) / 10 * 10) (abu - abu / 10 * 10)) 1 (((abu / 10) - (abu / 10) / 10 * 10).toNatClampNeg) ((abu / 100).toNatClampNeg) ((abu - abu / 10 * 10).toNatClampNeg)) 6 0 (((m_X7_settle (m_X1_oddsOn b (m_X7_draw I 1) sz 1 (abu / 100) ((abu / 10) - (abu / 10) / 10 * 10) (abu - abu / 10 * 10)) 1 (((abu / 10) - (abu / 10) / 10 * 10).toNatClampNeg) ((abu / 100).toNatClampNeg) ((abu - abu / 10 * 10).toNatClampNeg)) 6 0) + 1)) 6 1 (((m_X7_settle (m_X1_oddsOn b (m_X7_draw I 1) sz 1 (abu / 100) ((abu / 10) - (abu / 10) / 10 * 10) (abu - abu / 10 * 10)) 1 (((abu / 10) - (abu / 10) / 10 * 10).toNatClampNeg) ((abu / 100).toNatClampNeg) ((abu - abu / 10 * 10).toNatClampNeg)) 6 1) + 0)) else (z_up (z_up (m_X7_settle (m_X1_oddsOn b (m_X7_draw I 1) sz 1 (abu / 100) ((abu / 10) - (abu / 10) / 10 * 10) (abu - abu / 10 * 10)) 1 ((abu / 100).toNatClampNeg) (((abu / 10) - (abu / 10) / 10 * 10).toNatClampNeg) ((abu - abu / 10 * 10).toNatClampNeg)) 6 0 (((m_X7_settle (m_X1_oddsOn b (m_X7_draw I 1) sz 1 (abu / 100) ((abu / 10) - (abu / 10) / 10 * 10) (abu - abu / 10 * 10)) 1 ((abu / 100).toNatClampNeg) (((abu / 10) - (abu / 10) / 10 * 10).toNatClampNeg) ((abu - abu / 10 * 10).toNatClampNeg)) 6 0) + 1)) 6 1 (((m_X7_settle (m_X1_oddsOn b (m_X7_draw I 1) sz 1 (abu / 100) ((abu / 10) - (abu / 10) / 10 * 10) (abu - abu / 10 * 10)) 1 ((abu / 100).toNatClampNeg) (((abu / 10) - (abu / 10) / 10 * 10).toNatClampNeg) ((abu - abu / 10 * 10).toNatClampNeg)) 6 1) + 1))
set_option maxHeartbeats 2000000 in
set_option maxRecDepth 100000 in
theorem c_X8_match (d : Nat) (hd : 4 ≤ d) (b : Bool) (I : Nat → Nat → Int32) (L : Nat → Nat → Int64) (np : Nat) (hnp : I 1 0 = nI np) (hn10 : np ≤ 10) (sz : Nat) (hsz : I 13 4 = nI sz) (hs121 : sz ≤ 121) (abu : Int32) : z_CT zm_X8_match d [.ref 0, .int abu] SH (I, L, z_R b) 0 0 (z_ret (some (.int (f_X8_match b I sz abu))) ((m_X8_match b I sz abu), L, z_R b)) := by
  refine z_enter (by decide +kernel) (Nat.le_of_ble_eq_true rfl) ?_
  have hentry : PW zm_X8_match d 0 [(0, .ref 0), (1, .int abu)] [] SH (I, L, z_R b) 0 0 (z_ret (some (.int (f_X8_match b I sz abu))) ((m_X8_match b I sz abu), L, z_R b)) := by
    refine p_aload_n (z_dec zd_X8_match 0 rfl) rfl 0 rfl (n := 1) rfl ?_
    refine p_iload_n (z_dec zd_X8_match 1 rfl) rfl 1 rfl (n := 2) rfl ?_
    refine q_callV (As := [.int abu]) (rest := []) (z_dec zd_X8_match 2 rfl) zk_X8_123 zv_X8_isThree (c_X8_isThree (d - 1) (by omega) b I L abu) rfl ⟨_, _, rfl⟩ rfl rfl (Nat.le_of_ble_eq_true rfl) (by omega) (n := 5) rfl ?_
    show PW zm_X8_match d 5 [(0, .ref 0), (1, .int abu)] [.int (f_X8_isThree I abu)] SH (I, L, z_R b) 0 0 _
    refine p_if_ne (z_dec zd_X8_match 3 rfl) (t := 10) (by decide) (n := 8) rfl (fun h5 => ?_) (fun h5 => ?_)
    · refine p_iload_n (z_dec zd_X8_match 6 rfl) rfl 1 rfl (n := 11) rfl ?_
      refine p_bipush (z_dec zd_X8_match 7 rfl) (v := 100) (by decide) (n := 13) rfl ?_
      refine p_idiv (z_dec zd_X8_match 8 rfl) (by decide) (n := 14) rfl ?_
      refine p_istore_n (z_dec zd_X8_match 9 rfl) rfl (lv2 := [(2, .int (abu / 100)), (0, .ref 0), (1, .int abu)]) (by decide) rfl (n := 15) rfl ?_
      refine p_iload_n (z_dec zd_X8_match 10 rfl) rfl 2 rfl (n := 16) rfl ?_
      refine p_bipush (z_dec zd_X8_match 11 rfl) (v := 10) (by decide) (n := 18) rfl ?_
      refine p_idiv (z_dec zd_X8_match 12 rfl) (by decide) (n := 19) rfl ?_
      refine p_bipush (z_dec zd_X8_match 13 rfl) (v := 10) (by decide) (n := 21) rfl ?_
      refine p_irem (z_dec zd_X8_match 14 rfl) (by decide) (n := 22) rfl ?_
      refine p_istore_n (z_dec zd_X8_match 15 rfl) rfl (lv2 := [(3, .int ((abu / 10) - (abu / 10) / 10 * 10)), (2, .int (abu / 100)), (0, .ref 0), (1, .int abu)]) (by decide) rfl (n := 23) rfl ?_
      refine p_iload_n (z_dec zd_X8_match 16 rfl) rfl 3 rfl (n := 24) rfl ?_
      refine p_bipush (z_dec zd_X8_match 17 rfl) (v := 10) (by decide) (n := 26) rfl ?_
      refine p_irem (z_dec zd_X8_match 18 rfl) (by decide) (n := 27) rfl ?_
      refine p_istore (z_dec zd_X8_match 19 rfl) (lv2 := [(4, .int (abu - abu / 10 * 10)), (3, .int ((abu / 10) - (abu / 10) / 10 * 10)), (2, .int (abu / 100)), (0, .ref 0), (1, .int abu)]) (by decide) rfl (n := 29) rfl ?_
      refine p_aload_n (z_dec zd_X8_match 20 rfl) rfl 3 rfl (n := 30) rfl ?_
      refine q_getR (z_dec zd_X8_match 21 rfl) zf_X8_10 (i := 1) rfl rfl (n := 33) rfl ?_
      refine p_iload_n (z_dec zd_X8_match 22 rfl) rfl 2 rfl (n := 34) rfl ?_
      refine p_iload_n (z_dec zd_X8_match 23 rfl) rfl 1 rfl (n := 35) rfl ?_
      refine p_iload (z_dec zd_X8_match 24 rfl) 0 rfl (n := 37) rfl ?_
      refine q_callV (As := [.int (abu / 100), .int ((abu / 10) - (abu / 10) / 10 * 10), .int (abu - abu / 10 * 10)]) (rest := []) (z_dec zd_X8_match 25 rfl) zk_X8_181 zv_X7_canHold (c_X7_canHold (d - 1) (by omega) b I L 1 (z_Yd1 b) np hnp hn10 (abu / 100) ((abu / 10) - (abu / 10) / 10 * 10) (abu - abu / 10 * 10)) rfl ⟨_, _, rfl⟩ rfl rfl (Nat.le_of_ble_eq_true rfl) (by omega) (n := 40) rfl ?_
      show PW zm_X8_match d 40 [(4, .int (abu - abu / 10 * 10)), (3, .int ((abu / 10) - (abu / 10) / 10 * 10)), (2, .int (abu / 100)), (0, .ref 0), (1, .int abu)] [.int (f_X7_canHold I 1 (abu / 100) ((abu / 10) - (abu / 10) / 10 * 10) (abu - abu / 10 * 10))] SH (I, L, z_R b) 0 0 _
      refine p_if_ne (z_dec zd_X8_match 26 rfl) (t := 46) (by decide) (n := 43) rfl (fun h40 => ?_) (fun h40 => ?_)
      · have hu := z_unl hnp hn10 (z_canU h40)
        refine p_aload_n (z_dec zd_X8_match 29 rfl) rfl 3 rfl (n := 47) rfl ?_
        refine q_getR (z_dec zd_X8_match 30 rfl) zf_X8_10 (i := 1) rfl rfl (n := 50) rfl ?_
        refine q_callV (As := []) (rest := []) (z_dec zd_X8_match 31 rfl) zk_X8_235 zv_X7_draw (c_X7_draw (d - 1) (by omega) b I L 1 (z_Yd1 b)) rfl ⟨_, _, rfl⟩ rfl rfl (Nat.le_of_ble_eq_true rfl) (by omega) (n := 53) rfl ?_
        show PW zm_X8_match d 53 [(4, .int (abu - abu / 10 * 10)), (3, .int ((abu / 10) - (abu / 10) / 10 * 10)), (2, .int (abu / 100)), (0, .ref 0), (1, .int abu)] [.int (f_X7_draw I 1)] SH ((m_X7_draw I 1), L, z_R b) 0 0 _
        refine p_aload_n (z_dec zd_X8_match 32 rfl) rfl 3 rfl (n := 54) rfl ?_
        refine q_getR (z_dec zd_X8_match 33 rfl) zf_X8_26 (i := 13) rfl rfl (n := 57) rfl ?_
        refine p_aload_n (z_dec zd_X8_match 34 rfl) rfl 3 rfl (n := 58) rfl ?_
        refine q_getR (z_dec zd_X8_match 35 rfl) zf_X8_10 (i := 1) rfl rfl (n := 61) rfl ?_
        refine p_iload_n (z_dec zd_X8_match 36 rfl) rfl 2 rfl (n := 62) rfl ?_
        refine p_iload_n (z_dec zd_X8_match 37 rfl) rfl 1 rfl (n := 63) rfl ?_
        refine p_iload (z_dec zd_X8_match 38 rfl) 0 rfl (n := 65) rfl ?_
        refine q_callV (As := [.ref 1, .int (abu / 100), .int ((abu / 10) - (abu / 10) / 10 * 10), .int (abu - abu / 10 * 10)]) (rest := [.int (f_X7_draw I 1)]) (z_dec zd_X8_match 39 rfl) zk_X8_126 zv_X1_oddsOn (c_X1_oddsOn (d - 1) (by omega) b (m_X7_draw I 1) L sz ((z_drO _ _ _ _ (Or.inl (by decide))).trans hsz) hs121 1 (z_Yd1 b) (abu / 100) ((abu / 10) - (abu / 10) / 10 * 10) (abu - abu / 10 * 10) np ((z_drO _ _ _ _ (Or.inr (by decide))).trans hnp) hn10) rfl ⟨_, _, rfl⟩ rfl rfl (Nat.le_of_ble_eq_true rfl) (by omega) (n := 68) rfl ?_
        show PW zm_X8_match d 68 [(4, .int (abu - abu / 10 * 10)), (3, .int ((abu / 10) - (abu / 10) / 10 * 10)), (2, .int (abu / 100)), (0, .ref 0), (1, .int abu)] [.int (f_X1_oddsOn b (m_X7_draw I 1) sz 1 (abu / 100) ((abu / 10) - (abu / 10) / 10 * 10) (abu - abu / 10 * 10)), .int (f_X7_draw I 1)] SH ((m_X1_oddsOn b (m_X7_draw I 1) sz 1 (abu / 100) ((abu / 10) - (abu / 10) / 10 * 10) (abu - abu / 10 * 10)), L, z_R b) 0 0 _
        refine p_icmp_ge (z_dec zd_X8_match 40 rfl) (t := 75) (by decide) (n := 71) rfl (fun h68 => ?_) (fun h68 => ?_)
        · refine p_iconst (z_dec zd_X8_match 43 rfl) (v := 0) (by decide) (n := 76) rfl ?_
          refine p_istore (z_dec zd_X8_match 44 rfl) (lv2 := [(5, .int 0), (4, .int (abu - abu / 10 * 10)), (3, .int ((abu / 10) - (abu / 10) / 10 * 10)), (2, .int (abu / 100)), (0, .ref 0), (1, .int abu)]) (by decide) rfl (n := 78) rfl ?_
          refine p_aload_n (z_dec zd_X8_match 45 rfl) rfl 4 rfl (n := 79) rfl ?_
          refine q_getR (z_dec zd_X8_match 46 rfl) zf_X8_10 (i := 1) rfl rfl (n := 82) rfl ?_
          refine p_iload (z_dec zd_X8_match 47 rfl) 0 rfl (n := 84) rfl ?_
          refine p_if_eq (z_dec zd_X8_match 48 rfl) (t := 91) (by decide) (n := 87) rfl (fun h84 => ?_) (fun h84 => ?_)
          · refine p_iload_n (z_dec zd_X8_match 51 rfl) rfl 2 rfl (n := 92) rfl ?_
            refine p_iload (z_dec zd_X8_match 52 rfl) 0 rfl (n := 94) rfl ?_
            refine p_if_eq (z_dec zd_X8_match 53 rfl) (t := 101) (by decide) (n := 97) rfl (fun h94 => ?_) (fun h94 => ?_)
            · refine p_iload_n (z_dec zd_X8_match 56 rfl) rfl 3 rfl (n := 102) rfl ?_
              refine p_iload (z_dec zd_X8_match 57 rfl) 1 rfl (n := 104) rfl ?_
              refine q_callV (As := [.int (nI (((abu / 10) - (abu / 10) / 10 * 10).toNatClampNeg)), .int (nI ((abu / 100).toNatClampNeg)), .int (nI ((abu - abu / 10 * 10).toNatClampNeg))]) (rest := []) (z_dec zd_X8_match 58 rfl) zk_X8_238 zv_X7_settle (c_X7_settle (d - 1) (by omega) b (m_X1_oddsOn b (m_X7_draw I 1) sz 1 (abu / 100) ((abu / 10) - (abu / 10) / 10 * 10) (abu - abu / 10 * 10)) L 1 (z_Yd1 b) (((abu / 10) - (abu / 10) / 10 * 10).toNatClampNeg) (Nat.lt_of_lt_of_le hu.2.1.2 hn10) ((abu / 100).toNatClampNeg) (Nat.lt_of_lt_of_le hu.1.2 hn10) ((abu - abu / 10 * 10).toNatClampNeg) (Nat.lt_of_lt_of_le hu.2.2.2 hn10)) rfl ⟨_, _, rfl⟩ (by simp only [← hu.2.1.1, ← hu.1.1, ← hu.2.2.1]; rfl) rfl (Nat.le_of_ble_eq_true rfl) (by omega) (n := 107) rfl ?_
              show PW zm_X8_match d 107 [(5, .int 0), (4, .int (abu - abu / 10 * 10)), (3, .int ((abu / 10) - (abu / 10) / 10 * 10)), (2, .int (abu / 100)), (0, .ref 0), (1, .int abu)] [] SH ((m_X7_settle (m_X1_oddsOn b (m_X7_draw I 1) sz 1 (abu / 100) ((abu / 10) - (abu / 10) / 10 * 10) (abu - abu / 10 * 10)) 1 (((abu / 10) - (abu / 10) / 10 * 10).toNatClampNeg) ((abu / 100).toNatClampNeg) ((abu - abu / 10 * 10).toNatClampNeg)), L, z_R b) 0 0 _
              refine p_aload_n (z_dec zd_X8_match 59 rfl) rfl 4 rfl (n := 108) rfl ?_
              refine q_getR (z_dec zd_X8_match 60 rfl) zf_X8_10 (i := 1) rfl rfl (n := 111) rfl ?_
              refine q_getR (z_dec zd_X8_match 61 rfl) zf_X8_241 (i := 6) rfl rfl (n := 114) rfl ?_
              refine p_iconst (z_dec zd_X8_match 62 rfl) (v := 0) (by decide) (n := 115) rfl ?_
              refine p_dup2 (z_dec zd_X8_match 63 rfl) rfl rfl (n := 116) rfl ?_
              refine q_iald (z_dec zd_X8_match 64 rfl) rfl (by decide) (0) rfl (by decide) (v := ((m_X7_settle (m_X1_oddsOn b (m_X7_draw I 1) sz 1 (abu / 100) ((abu / 10) - (abu / 10) / 10 * 10) (abu - abu / 10 * 10)) 1 (((abu / 10) - (abu / 10) / 10 * 10).toNatClampNeg) ((abu / 100).toNatClampNeg) ((abu - abu / 10 * 10).toNatClampNeg)) 6 0)) rfl (n := 117) rfl ?_
              refine p_iconst (z_dec zd_X8_match 65 rfl) (v := 1) (by decide) (n := 118) rfl ?_
              refine p_iadd (z_dec zd_X8_match 66 rfl) (n := 119) rfl ?_
              refine q_iast (z_dec zd_X8_match 67 rfl) rfl (by decide) (0) rfl (by decide) (n := 120) rfl ?_
              refine p_aload_n (z_dec zd_X8_match 68 rfl) rfl 4 rfl (n := 121) rfl ?_
              refine q_getR (z_dec zd_X8_match 69 rfl) zf_X8_10 (i := 1) rfl rfl (n := 124) rfl ?_
              refine q_getR (z_dec zd_X8_match 70 rfl) zf_X8_241 (i := 6) rfl rfl (n := 127) rfl ?_
              refine p_iconst (z_dec zd_X8_match 71 rfl) (v := 1) (by decide) (n := 128) rfl ?_
              refine p_dup2 (z_dec zd_X8_match 72 rfl) rfl rfl (n := 129) rfl ?_
              refine q_iald (z_dec zd_X8_match 73 rfl) rfl (by decide) (1) rfl (by decide) (v := ((m_X7_settle (m_X1_oddsOn b (m_X7_draw I 1) sz 1 (abu / 100) ((abu / 10) - (abu / 10) / 10 * 10) (abu - abu / 10 * 10)) 1 (((abu / 10) - (abu / 10) / 10 * 10).toNatClampNeg) ((abu / 100).toNatClampNeg) ((abu - abu / 10 * 10).toNatClampNeg)) 6 1)) (z_up_j _ _ (by decide)) (n := 130) rfl ?_
              refine p_iload (z_dec zd_X8_match 74 rfl) 0 rfl (n := 132) rfl ?_
              refine p_if_eq (z_dec zd_X8_match 75 rfl) (t := 139) (by decide) (n := 135) rfl (fun h132 => ?_) (fun h132 => ?_)
              · refine p_iconst (z_dec zd_X8_match 78 rfl) (v := 0) (by decide) (n := 140) rfl ?_
                refine p_iadd (z_dec zd_X8_match 79 rfl) (n := 141) rfl ?_
                refine q_iast (z_dec zd_X8_match 80 rfl) rfl (by decide) (1) rfl (by decide) (n := 142) rfl ?_
                refine p_iload (z_dec zd_X8_match 81 rfl) 0 rfl (n := 144) rfl ?_
                refine p_if_eq (z_dec zd_X8_match 82 rfl) (t := 151) (by decide) (n := 147) rfl (fun h144 => ?_) (fun h144 => ?_)
                · refine p_iconst (z_dec zd_X8_match 85 rfl) (v := 0) (by decide) (n := 152) rfl ?_
                  exact p_iret (z_dec zd_X8_match 86 rfl) rfl ⟨(by unfold f_X8_match; rw [if_neg h5, if_neg h40, if_pos h68]), rfl, (z_3 (by unfold m_X8_match; rw [if_neg h5, if_neg h40, if_pos h68]) rfl)⟩
                · exact absurd h144 (by decide)
              · exact absurd h132 (by decide)
            · exact absurd h94 (by decide)
          · exact absurd h84 (by decide)
        · refine p_iconst (z_dec zd_X8_match 41 rfl) (v := 1) (by decide) (n := 72) rfl ?_
          refine p_goto (z_dec zd_X8_match 42 rfl) (t := 76) (by decide) ?_
          refine p_istore (z_dec zd_X8_match 44 rfl) (lv2 := [(5, .int 1), (4, .int (abu - abu / 10 * 10)), (3, .int ((abu / 10) - (abu / 10) / 10 * 10)), (2, .int (abu / 100)), (0, .ref 0), (1, .int abu)]) (by decide) rfl (n := 78) rfl ?_
          refine p_aload_n (z_dec zd_X8_match 45 rfl) rfl 4 rfl (n := 79) rfl ?_
          refine q_getR (z_dec zd_X8_match 46 rfl) zf_X8_10 (i := 1) rfl rfl (n := 82) rfl ?_
          refine p_iload (z_dec zd_X8_match 47 rfl) 0 rfl (n := 84) rfl ?_
          refine p_if_eq (z_dec zd_X8_match 48 rfl) (t := 91) (by decide) (n := 87) rfl (fun h84 => ?_) (fun h84 => ?_)
          · exact absurd h84 (by decide)
          · refine p_iload_n (z_dec zd_X8_match 49 rfl) rfl 3 rfl (n := 88) rfl ?_
            refine p_goto (z_dec zd_X8_match 50 rfl) (t := 92) (by decide) ?_
            refine p_iload (z_dec zd_X8_match 52 rfl) 0 rfl (n := 94) rfl ?_
            refine p_if_eq (z_dec zd_X8_match 53 rfl) (t := 101) (by decide) (n := 97) rfl (fun h94 => ?_) (fun h94 => ?_)
            · exact absurd h94 (by decide)
            · refine p_iload_n (z_dec zd_X8_match 54 rfl) rfl 2 rfl (n := 98) rfl ?_
              refine p_goto (z_dec zd_X8_match 55 rfl) (t := 102) (by decide) ?_
              refine p_iload (z_dec zd_X8_match 57 rfl) 1 rfl (n := 104) rfl ?_
              refine q_callV (As := [.int (nI ((abu / 100).toNatClampNeg)), .int (nI (((abu / 10) - (abu / 10) / 10 * 10).toNatClampNeg)), .int (nI ((abu - abu / 10 * 10).toNatClampNeg))]) (rest := []) (z_dec zd_X8_match 58 rfl) zk_X8_238 zv_X7_settle (c_X7_settle (d - 1) (by omega) b (m_X1_oddsOn b (m_X7_draw I 1) sz 1 (abu / 100) ((abu / 10) - (abu / 10) / 10 * 10) (abu - abu / 10 * 10)) L 1 (z_Yd1 b) ((abu / 100).toNatClampNeg) (Nat.lt_of_lt_of_le hu.1.2 hn10) (((abu / 10) - (abu / 10) / 10 * 10).toNatClampNeg) (Nat.lt_of_lt_of_le hu.2.1.2 hn10) ((abu - abu / 10 * 10).toNatClampNeg) (Nat.lt_of_lt_of_le hu.2.2.2 hn10)) rfl ⟨_, _, rfl⟩ (by simp only [← hu.1.1, ← hu.2.1.1, ← hu.2.2.1]; rfl) rfl (Nat.le_of_ble_eq_true rfl) (by omega) (n := 107) rfl ?_
              show PW zm_X8_match d 107 [(5, .int 1), (4, .int (abu - abu / 10 * 10)), (3, .int ((abu / 10) - (abu / 10) / 10 * 10)), (2, .int (abu / 100)), (0, .ref 0), (1, .int abu)] [] SH ((m_X7_settle (m_X1_oddsOn b (m_X7_draw I 1) sz 1 (abu / 100) ((abu / 10) - (abu / 10) / 10 * 10) (abu - abu / 10 * 10)) 1 ((abu / 100).toNatClampNeg) (((abu / 10) - (abu / 10) / 10 * 10).toNatClampNeg) ((abu - abu / 10 * 10).toNatClampNeg)), L, z_R b) 0 0 _
              refine p_aload_n (z_dec zd_X8_match 59 rfl) rfl 4 rfl (n := 108) rfl ?_
              refine q_getR (z_dec zd_X8_match 60 rfl) zf_X8_10 (i := 1) rfl rfl (n := 111) rfl ?_
              refine q_getR (z_dec zd_X8_match 61 rfl) zf_X8_241 (i := 6) rfl rfl (n := 114) rfl ?_
              refine p_iconst (z_dec zd_X8_match 62 rfl) (v := 0) (by decide) (n := 115) rfl ?_
              refine p_dup2 (z_dec zd_X8_match 63 rfl) rfl rfl (n := 116) rfl ?_
              refine q_iald (z_dec zd_X8_match 64 rfl) rfl (by decide) (0) rfl (by decide) (v := ((m_X7_settle (m_X1_oddsOn b (m_X7_draw I 1) sz 1 (abu / 100) ((abu / 10) - (abu / 10) / 10 * 10) (abu - abu / 10 * 10)) 1 ((abu / 100).toNatClampNeg) (((abu / 10) - (abu / 10) / 10 * 10).toNatClampNeg) ((abu - abu / 10 * 10).toNatClampNeg)) 6 0)) rfl (n := 117) rfl ?_
              refine p_iconst (z_dec zd_X8_match 65 rfl) (v := 1) (by decide) (n := 118) rfl ?_
              refine p_iadd (z_dec zd_X8_match 66 rfl) (n := 119) rfl ?_
              refine q_iast (z_dec zd_X8_match 67 rfl) rfl (by decide) (0) rfl (by decide) (n := 120) rfl ?_
              refine p_aload_n (z_dec zd_X8_match 68 rfl) rfl 4 rfl (n := 121) rfl ?_
              refine q_getR (z_dec zd_X8_match 69 rfl) zf_X8_10 (i := 1) rfl rfl (n := 124) rfl ?_
              refine q_getR (z_dec zd_X8_match 70 rfl) zf_X8_241 (i := 6) rfl rfl (n := 127) rfl ?_
              refine p_iconst (z_dec zd_X8_match 71 rfl) (v := 1) (by decide) (n := 128) rfl ?_
              refine p_dup2 (z_dec zd_X8_match 72 rfl) rfl rfl (n := 129) rfl ?_
              refine q_iald (z_dec zd_X8_match 73 rfl) rfl (by decide) (1) rfl (by decide) (v := ((m_X7_settle (m_X1_oddsOn b (m_X7_draw I 1) sz 1 (abu / 100) ((abu / 10) - (abu / 10) / 10 * 10) (abu - abu / 10 * 10)) 1 ((abu / 100).toNatClampNeg) (((abu / 10) - (abu / 10) / 10 * 10).toNatClampNeg) ((abu - abu / 10 * 10).toNatClampNeg)) 6 1)) (z_up_j _ _ (by decide)) (n := 130) rfl ?_
              refine p_iload (z_dec zd_X8_match 74 rfl) 0 rfl (n := 132) rfl ?_
              refine p_if_eq (z_dec zd_X8_match 75 rfl) (t := 139) (by decide) (n := 135) rfl (fun h132 => ?_) (fun h132 => ?_)
              · exact absurd h132 (by decide)
              · refine p_iconst (z_dec zd_X8_match 76 rfl) (v := 1) (by decide) (n := 136) rfl ?_
                refine p_goto (z_dec zd_X8_match 77 rfl) (t := 140) (by decide) ?_
                refine p_iadd (z_dec zd_X8_match 79 rfl) (n := 141) rfl ?_
                refine q_iast (z_dec zd_X8_match 80 rfl) rfl (by decide) (1) rfl (by decide) (n := 142) rfl ?_
                refine p_iload (z_dec zd_X8_match 81 rfl) 0 rfl (n := 144) rfl ?_
                refine p_if_eq (z_dec zd_X8_match 82 rfl) (t := 151) (by decide) (n := 147) rfl (fun h144 => ?_) (fun h144 => ?_)
                · exact absurd h144 (by decide)
                · refine p_iconst (z_dec zd_X8_match 83 rfl) (v := 1) (by decide) (n := 148) rfl ?_
                  refine p_goto (z_dec zd_X8_match 84 rfl) (t := 152) (by decide) ?_
                  exact p_iret (z_dec zd_X8_match 86 rfl) rfl ⟨(by unfold f_X8_match; rw [if_neg h5, if_neg h40, if_neg h68]), rfl, (z_3 (by unfold m_X8_match; rw [if_neg h5, if_neg h40, if_neg h68]) rfl)⟩
      · refine p_bipush (z_dec zd_X8_match 27 rfl) (v := (-5)) (by decide) (n := 45) rfl ?_
        exact p_iret (z_dec zd_X8_match 28 rfl) rfl ⟨(by unfold f_X8_match; rw [if_neg h5, if_pos h40]), rfl, (z_3 (by unfold m_X8_match; rw [if_neg h5, if_pos h40]) rfl)⟩
    · refine p_iconst (z_dec zd_X8_match 4 rfl) (v := (-1)) (by decide) (n := 9) rfl ?_
      exact p_iret (z_dec zd_X8_match 5 rfl) rfl ⟨(by unfold f_X8_match; rw [if_pos h5]), rfl, (z_3 (by unfold m_X8_match; rw [if_pos h5]) rfl)⟩
  exact hentry
