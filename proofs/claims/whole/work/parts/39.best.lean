/-- nothing but the stack has changed -/
def z_Fr (I J : Nat → Nat → Int32) : Prop := ∀ a j, a ≠ 17 → (a ≠ 13 ∨ j ≠ 8) → J a j = I a j
theorem z_Fr_rf (I : Nat → Nat → Int32) : z_Fr I I := fun _ _ _ _ => rfl
theorem z_Fr_tr {I J K : Nat → Nat → Int32} (h1 : z_Fr I J) (h2 : z_Fr J K) : z_Fr I K := fun a j p q => (h2 a j p q).trans (h1 a j p q)
theorem z_Fr_13 (I : Nat → Nat → Int32) (v : Int32) : z_Fr I (z_up I 13 8 v) := by
  intro a j h1 h2
  rcases h2 with h2 | h2
  · exact z_up_k _ _ h2
  · by_cases h3 : a = 13
    · subst h3; exact z_up_j _ _ h2
    · exact z_up_k _ _ h3
theorem z_Fr_17 (I : Nat → Nat → Int32) (t : Nat) (v : Int32) : z_Fr I (z_up I 17 t v) := fun a j h1 _ => z_up_k _ _ h1
theorem z_Fr_push (I : Nat → Nat → Int32) (tp : Nat) (v : Int32) : z_Fr I (m_X1_push I tp v) := by
  unfold m_X1_push
  by_cases q : (121 : Int32) ≤ nI tp
  · rw [if_pos q]; exact z_Fr_rf I
  · rw [if_neg q]; exact z_Fr_tr (z_Fr_13 I _) (z_Fr_17 _ _ _)
theorem z_Fr_pop (I : Nat → Nat → Int32) (tp : Nat) : z_Fr I (m_X1_pop I tp) := by
  unfold m_X1_pop
  by_cases q : nI tp ≤ 0
  · rw [if_pos q]; exact z_Fr_rf I
  · rw [if_neg q]; exact z_Fr_13 I _
theorem z_Fr_join (I : Nat → Nat → Int32) (sign : Int32) : z_Fr I (m_X1_join I sign) := by
  unfold m_X1_join
  by_cases c1 : sign = 33
  · rw [if_pos c1]
    by_cases c2 : f_X1_pop I (I 13 8).toNatClampNeg = 0
    · rw [if_pos c2]; exact z_Fr_tr (z_Fr_pop I _) (z_Fr_push _ _ _)
    · rw [if_neg c2]; exact z_Fr_tr (z_Fr_pop I _) (z_Fr_push _ _ _)
  · rw [if_neg c1]
    by_cases c3 : sign = 95
    · rw [if_pos c3]; exact z_Fr_tr (z_Fr_pop I _) (z_Fr_push _ _ _)
    · rw [if_neg c3]; exact z_Fr_tr (z_Fr_tr (z_Fr_pop I _) (z_Fr_pop _ _)) (z_Fr_push _ _ _)
theorem z_FrB (b : Bool) (k one other umpire : Nat) : ∀ (r t : Nat) (v : Int32) (Iv : Nat → Nat → Int32), z_Fr Iv (gx_X1_byText_11 b k one other umpire r t v Iv).2
  | 0, t, v, Iv => z_Fr_rf Iv
  | r + 1, t, v, Iv => by
    unfold gx_X1_byText_11
    by_cases c1 : v = 0
    · rw [if_pos c1]
      by_cases c2 : Iv (z_cd b) t < 0
      · rw [if_pos c2]
        by_cases c3 : Iv (z_cd b) t = (-63)
        · rw [if_pos c3]
          by_cases c4 : f_X1_pop Iv (Iv 13 8).toNatClampNeg = 0
          · rw [if_pos c4]; exact z_Fr_tr (z_Fr_pop Iv _) (z_FrB b k one other umpire r (t + 1) _ _)
          · rw [if_neg c4]; exact z_Fr_tr (z_Fr_pop Iv _) (z_FrB b k one other umpire r (t + 1) _ _)
        · rw [if_neg c3]
          by_cases c5 : Iv (z_cd b) t = (-59)
          · rw [if_pos c5]; exact z_Fr_pop Iv _
          · rw [if_neg c5]
            by_cases c6 : f_X1_isName (-(Iv (z_cd b) t)) = 0
            · rw [if_pos c6]; exact z_Fr_tr (z_Fr_join Iv _) (z_FrB b k one other umpire r (t + 1) _ _)
            · rw [if_neg c6]; exact z_Fr_tr (z_Fr_push Iv _ _) (z_FrB b k one other umpire r (t + 1) _ _)
      · rw [if_neg c2]; exact z_Fr_tr (z_Fr_push Iv _ _) (z_FrB b k one other umpire r (t + 1) _ _)
    · rw [if_neg c1]
      by_cases c5 : Iv (z_cd b) t = (-59)
      · rw [if_pos c5]; exact z_FrB b k one other umpire r (t + 1) _ _
      · rw [if_neg c5]; exact z_FrB b k one other umpire r (t + 1) _ _
theorem z_FrO (b : Bool) (I : Nat → Nat → Int32) (sz k : Nat) (one other umpire : Int32) : z_Fr I (m_X1_oddsOn b I sz k one other umpire) := by
  unfold m_X1_oddsOn
  by_cases c1 : f_X7_areUnlike I k one other umpire = 0
  · rw [if_pos c1]; exact z_Fr_rf I
  · rw [if_neg c1]
    by_cases c2 : nI sz = 0
    · rw [if_pos c2]; exact z_Fr_rf I
    · rw [if_neg c2]; exact z_Fr_tr (z_Fr_13 I 0) (z_FrB b k _ _ _ sz 0 0 _)
theorem z_ooO (b : Bool) (I : Nat → Nat → Int32) (sz k : Nat) (one other umpire : Int32) (a j : Nat) (h1 : a ≠ 17) (h2 : a ≠ 13 ∨ j ≠ 8) : m_X1_oddsOn b I sz k one other umpire a j = I a j := z_FrO b I sz k one other umpire a j h1 h2
def gb_X8_bestJudge_49 (b : Bool) (I : Nat → Nat → Int32) (sz : Nat) (ab : Int32) (i49 : Nat) (s : Int32 × Int32 × (Nat → Nat → Int32)) : Int32 × Int32 × (Nat → Nat → Int32) := if (nI i49) = (ab / 10) then (s.1, s.2.1, s.2.2) else if (nI i49) = (ab - ab / 10 * 10) then (s.1, s.2.1, s.2.2) else if (f_X7_mayJudge s.2.2 1 i49) = 0 then (s.1, s.2.1, s.2.2) else if (f_X1_oddsOn b s.2.2 sz 1 (ab / 10) (ab - ab / 10 * 10) (nI i49)) ≤ s.2.1 then (s.1, s.2.1, (m_X1_oddsOn b s.2.2 sz 1 (ab / 10) (ab - ab / 10 * 10) (nI i49))) else ((nI i49), (f_X1_oddsOn b s.2.2 sz 1 (ab / 10) (ab - ab / 10 * 10) (nI i49)), (m_X1_oddsOn b s.2.2 sz 1 (ab / 10) (ab - ab / 10 * 10) (nI i49)))
def g_X8_bestJudge_49 (b : Bool) (I : Nat → Nat → Int32) (sz : Nat) (ab : Int32) : Nat → Int32 × Int32 × (Nat → Nat → Int32)
  | 0 => ((-2), (-1), I)
  | i49 + 1 => gb_X8_bestJudge_49 b I sz ab i49 (g_X8_bestJudge_49 b I sz ab i49)
theorem gi_X8_bestJudge_49_1_0 (b : Bool) (I : Nat → Nat → Int32) (sz : Nat) (ab : Int32) : ∀ i49, (g_X8_bestJudge_49 b I sz ab i49).2.2 1 0 = I 1 0
  | 0 => rfl
  | i49 + 1 => by
    have ih := gi_X8_bestJudge_49_1_0 b I sz ab i49
    show (gb_X8_bestJudge_49 b I sz ab i49 (g_X8_bestJudge_49 b I sz ab i49)).2.2 1 0 = _
    unfold gb_X8_bestJudge_49
    (repeat' split) <;> first | exact (z_ooO _ _ _ _ _ _ _ _ _ (by decide) (Or.inl (by decide))).trans ih | exact (z_ooO _ _ _ _ _ _ _ _ _ (by decide) (Or.inr (by decide))).trans ih | exact ih
theorem gi_X8_bestJudge_49_13_4 (b : Bool) (I : Nat → Nat → Int32) (sz : Nat) (ab : Int32) : ∀ i49, (g_X8_bestJudge_49 b I sz ab i49).2.2 13 4 = I 13 4
  | 0 => rfl
  | i49 + 1 => by
    have ih := gi_X8_bestJudge_49_13_4 b I sz ab i49
    show (gb_X8_bestJudge_49 b I sz ab i49 (g_X8_bestJudge_49 b I sz ab i49)).2.2 13 4 = _
    unfold gb_X8_bestJudge_49
    (repeat' split) <;> first | exact (z_ooO _ _ _ _ _ _ _ _ _ (by decide) (Or.inl (by decide))).trans ih | exact (z_ooO _ _ _ _ _ _ _ _ _ (by decide) (Or.inr (by decide))).trans ih | exact ih
def f_X8_bestJudge (b : Bool) (I : Nat → Nat → Int32) (np : Nat) (sz : Nat) (ab : Int32) : Int32 := if (f_X7_has I 1 (ab / 10)) = 0 then (-1) else if (f_X7_has I 1 (ab - ab / 10 * 10)) = 0 then (-1) else if (ab / 10) = (ab - ab / 10 * 10) then (-1) else (g_X8_bestJudge_49 b I sz ab np).1
def m_X8_bestJudge (b : Bool) (I : Nat → Nat → Int32) (np : Nat) (sz : Nat) (ab : Int32) : Nat → Nat → Int32 := if (f_X7_has I 1 (ab / 10)) = 0 then I else if (f_X7_has I 1 (ab - ab / 10 * 10)) = 0 then I else if (ab / 10) = (ab - ab / 10 * 10) then I else (g_X8_bestJudge_49 b I sz ab np).2.2
set_option maxHeartbeats 2000000 in
set_option maxRecDepth 100000 in
theorem c_X8_bestJudge (d : Nat) (hd : 4 ≤ d) (b : Bool) (I : Nat → Nat → Int32) (L : Nat → Nat → Int64) (np : Nat) (hnp : I 1 0 = nI np) (hn10 : np ≤ 10) (sz : Nat) (hsz : I 13 4 = nI sz) (hs121 : sz ≤ 121) (ab : Int32) : z_CT zm_X8_bestJudge d [.ref 0, .int ab] SH (I, L, z_R b) 0 0 (z_ret (some (.int (f_X8_bestJudge b I np sz ab))) ((m_X8_bestJudge b I np sz ab), L, z_R b)) := by
  refine z_enter (by decide +kernel) (Nat.le_of_ble_eq_true rfl) ?_
  have hentry : PW zm_X8_bestJudge d 0 [(0, .ref 0), (1, .int ab)] [] SH (I, L, z_R b) 0 0 (z_ret (some (.int (f_X8_bestJudge b I np sz ab))) ((m_X8_bestJudge b I np sz ab), L, z_R b)) := by
    refine p_iload_n (z_dec zd_X8_bestJudge 0 rfl) rfl 1 rfl (n := 1) rfl ?_
    refine p_bipush (z_dec zd_X8_bestJudge 1 rfl) (v := 10) (by decide) (n := 3) rfl ?_
    refine p_idiv (z_dec zd_X8_bestJudge 2 rfl) (by decide) (n := 4) rfl ?_
    refine p_istore_n (z_dec zd_X8_bestJudge 3 rfl) rfl (lv2 := [(2, .int (ab / 10)), (0, .ref 0), (1, .int ab)]) (by decide) rfl (n := 5) rfl ?_
    refine p_iload_n (z_dec zd_X8_bestJudge 4 rfl) rfl 2 rfl (n := 6) rfl ?_
    refine p_bipush (z_dec zd_X8_bestJudge 5 rfl) (v := 10) (by decide) (n := 8) rfl ?_
    refine p_irem (z_dec zd_X8_bestJudge 6 rfl) (by decide) (n := 9) rfl ?_
    refine p_istore_n (z_dec zd_X8_bestJudge 7 rfl) rfl (lv2 := [(3, .int (ab - ab / 10 * 10)), (2, .int (ab / 10)), (0, .ref 0), (1, .int ab)]) (by decide) rfl (n := 10) rfl ?_
    refine p_aload_n (z_dec zd_X8_bestJudge 8 rfl) rfl 2 rfl (n := 11) rfl ?_
    refine q_getR (z_dec zd_X8_bestJudge 9 rfl) zf_X8_10 (i := 1) rfl rfl (n := 14) rfl ?_
    refine p_iload_n (z_dec zd_X8_bestJudge 10 rfl) rfl 1 rfl (n := 15) rfl ?_
    refine q_callV (As := [.int (ab / 10)]) (rest := []) (z_dec zd_X8_bestJudge 11 rfl) zk_X8_133 zv_X7_has (c_X7_has (d - 1) (by omega) b I L 1 (z_Yd1 b) (ab / 10)) rfl ⟨_, _, rfl⟩ rfl rfl (Nat.le_of_ble_eq_true rfl) (by omega) (n := 18) rfl ?_
    show PW zm_X8_bestJudge d 18 [(3, .int (ab - ab / 10 * 10)), (2, .int (ab / 10)), (0, .ref 0), (1, .int ab)] [.int (f_X7_has I 1 (ab / 10))] SH (I, L, z_R b) 0 0 _
    refine p_if_eq (z_dec zd_X8_bestJudge 12 rfl) (t := 37) (by decide) (n := 21) rfl (fun h18 => ?_) (fun h18 => ?_)
    · refine p_iconst (z_dec zd_X8_bestJudge 21 rfl) (v := (-1)) (by decide) (n := 38) rfl ?_
      exact p_iret (z_dec zd_X8_bestJudge 22 rfl) rfl ⟨(by unfold f_X8_bestJudge; rw [if_pos h18]), rfl, (z_3 (by unfold m_X8_bestJudge; rw [if_pos h18]) rfl)⟩
    · refine p_aload_n (z_dec zd_X8_bestJudge 13 rfl) rfl 2 rfl (n := 22) rfl ?_
      refine q_getR (z_dec zd_X8_bestJudge 14 rfl) zf_X8_10 (i := 1) rfl rfl (n := 25) rfl ?_
      refine p_iload_n (z_dec zd_X8_bestJudge 15 rfl) rfl 0 rfl (n := 26) rfl ?_
      refine q_callV (As := [.int (ab - ab / 10 * 10)]) (rest := []) (z_dec zd_X8_bestJudge 16 rfl) zk_X8_133 zv_X7_has (c_X7_has (d - 1) (by omega) b I L 1 (z_Yd1 b) (ab - ab / 10 * 10)) rfl ⟨_, _, rfl⟩ rfl rfl (Nat.le_of_ble_eq_true rfl) (by omega) (n := 29) rfl ?_
      show PW zm_X8_bestJudge d 29 [(3, .int (ab - ab / 10 * 10)), (2, .int (ab / 10)), (0, .ref 0), (1, .int ab)] [.int (f_X7_has I 1 (ab - ab / 10 * 10))] SH (I, L, z_R b) 0 0 _
      refine p_if_eq (z_dec zd_X8_bestJudge 17 rfl) (t := 37) (by decide) (n := 32) rfl (fun h29 => ?_) (fun h29 => ?_)
      · refine p_iconst (z_dec zd_X8_bestJudge 21 rfl) (v := (-1)) (by decide) (n := 38) rfl ?_
        exact p_iret (z_dec zd_X8_bestJudge 22 rfl) rfl ⟨(by unfold f_X8_bestJudge; rw [if_neg h18, if_pos h29]), rfl, (z_3 (by unfold m_X8_bestJudge; rw [if_neg h18, if_pos h29]) rfl)⟩
      · refine p_iload_n (z_dec zd_X8_bestJudge 18 rfl) rfl 1 rfl (n := 33) rfl ?_
        refine p_iload_n (z_dec zd_X8_bestJudge 19 rfl) rfl 0 rfl (n := 34) rfl ?_
        refine p_icmp_ne (z_dec zd_X8_bestJudge 20 rfl) (t := 39) (by decide) (n := 37) rfl (fun h34 => ?_) (fun h34 => ?_)
        · refine p_bipush (z_dec zd_X8_bestJudge 23 rfl) (v := (-2)) (by decide) (n := 41) rfl ?_
          refine p_istore (z_dec zd_X8_bestJudge 24 rfl) (lv2 := [(4, .int (-2)), (3, .int (ab - ab / 10 * 10)), (2, .int (ab / 10)), (0, .ref 0), (1, .int ab)]) (by decide) rfl (n := 43) rfl ?_
          refine p_iconst (z_dec zd_X8_bestJudge 25 rfl) (v := (-1)) (by decide) (n := 44) rfl ?_
          refine p_istore (z_dec zd_X8_bestJudge 26 rfl) (lv2 := [(5, .int (-1)), (4, .int (-2)), (3, .int (ab - ab / 10 * 10)), (2, .int (ab / 10)), (0, .ref 0), (1, .int ab)]) (by decide) rfl (n := 46) rfl ?_
          refine p_iconst (z_dec zd_X8_bestJudge 27 rfl) (v := 0) (by decide) (n := 47) rfl ?_
          refine p_istore (z_dec zd_X8_bestJudge 28 rfl) (lv2 := [(6, .int 0), (5, .int (-1)), (4, .int (-2)), (3, .int (ab - ab / 10 * 10)), (2, .int (ab / 10)), (0, .ref 0), (1, .int ab)]) (by decide) rfl (n := 49) rfl ?_
          have hL49 : ∀ i49, i49 ≤ np → PW zm_X8_bestJudge d 49 [(6, .int (nI i49)), (5, .int ((g_X8_bestJudge_49 b I sz ab i49).2.1)), (4, .int ((g_X8_bestJudge_49 b I sz ab i49).1)), (3, .int (ab - ab / 10 * 10)), (2, .int (ab / 10)), (0, .ref 0), (1, .int ab)] [] SH ((g_X8_bestJudge_49 b I sz ab i49).2.2, L, z_R b) 0 0 (z_ret (some (.int (f_X8_bestJudge b I np sz ab))) ((m_X8_bestJudge b I np sz ab), L, z_R b)) := by
            refine z_down np (fun i49 hi49 ih49 => ?_)
            refine p_iload (z_dec zd_X8_bestJudge 29 rfl) 0 rfl (n := 51) rfl ?_
            refine p_aload_n (z_dec zd_X8_bestJudge 30 rfl) rfl 5 rfl (n := 52) rfl ?_
            refine q_getR (z_dec zd_X8_bestJudge 31 rfl) zf_X8_10 (i := 1) rfl rfl (n := 55) rfl ?_
            refine q_getI (z_dec zd_X8_bestJudge 32 rfl) zf_X8_136 (by decide) rfl (v := (nI np)) ((gi_X8_bestJudge_49_1_0 b I sz ab i49).trans hnp) (n := 58) rfl ?_
            refine p_icmp_ge (z_dec zd_X8_bestJudge 33 rfl) (t := 126) (by decide) (n := 61) rfl (fun h58 => ?_) (fun h58 => ?_)
            · have hx49 : i49 = np := by have := z_ge (a := np) h58; omega
              rw [hx49]
              refine p_iload (z_dec zd_X8_bestJudge 64 rfl) 2 rfl (n := 128) rfl ?_
              exact p_iret (z_dec zd_X8_bestJudge 65 rfl) rfl ⟨(by unfold f_X8_bestJudge; rw [if_neg h18, if_neg h29, if_neg h34]), rfl, (z_3 (by unfold m_X8_bestJudge; rw [if_neg h18, if_neg h29, if_neg h34]) rfl)⟩
            · have hx49 : i49 < np := by have := z_nge (a := np) h58; omega
              refine p_iload (z_dec zd_X8_bestJudge 34 rfl) 0 rfl (n := 63) rfl ?_
              refine p_iload_n (z_dec zd_X8_bestJudge 35 rfl) rfl 4 rfl (n := 64) rfl ?_
              refine p_icmp_eq (z_dec zd_X8_bestJudge 36 rfl) (t := 120) (by decide) (n := 67) rfl (fun h64 => ?_) (fun h64 => ?_)
              · refine p_iinc (z_dec zd_X8_bestJudge 62 rfl) 0 rfl (v := (nI (i49 + 1))) (nI_1 _) (lv2 := [(6, .int (nI (i49 + 1))), (5, .int ((g_X8_bestJudge_49 b I sz ab i49).2.1)), (4, .int ((g_X8_bestJudge_49 b I sz ab i49).1)), (3, .int (ab - ab / 10 * 10)), (2, .int (ab / 10)), (0, .ref 0), (1, .int ab)]) (by decide) rfl (n := 123) rfl ?_
                refine p_goto (z_dec zd_X8_bestJudge 63 rfl) (t := 49) (by decide) ?_
                have eb : (g_X8_bestJudge_49 b I sz ab) (i49 + 1) = ((g_X8_bestJudge_49 b I sz ab i49).1, (g_X8_bestJudge_49 b I sz ab i49).2.1, (g_X8_bestJudge_49 b I sz ab i49).2.2) := by show gb_X8_bestJudge_49 b I sz ab i49 ((g_X8_bestJudge_49 b I sz ab) i49) = _; unfold gb_X8_bestJudge_49; rw [if_pos h64]
                refine z_lv (lv' := [(6, .int (nI (i49 + 1))), (5, .int ((g_X8_bestJudge_49 b I sz ab (i49 + 1)).2.1)), (4, .int ((g_X8_bestJudge_49 b I sz ab (i49 + 1)).1)), (3, .int (ab - ab / 10 * 10)), (2, .int (ab / 10)), (0, .ref 0), (1, .int ab)]) (by rw [eb]) rfl (by rw [eb]) (ih49 (by omega))
              · refine p_iload (z_dec zd_X8_bestJudge 37 rfl) 0 rfl (n := 69) rfl ?_
                refine p_iload_n (z_dec zd_X8_bestJudge 38 rfl) rfl 3 rfl (n := 70) rfl ?_
                refine p_icmp_eq (z_dec zd_X8_bestJudge 39 rfl) (t := 120) (by decide) (n := 73) rfl (fun h70 => ?_) (fun h70 => ?_)
                · refine p_iinc (z_dec zd_X8_bestJudge 62 rfl) 0 rfl (v := (nI (i49 + 1))) (nI_1 _) (lv2 := [(6, .int (nI (i49 + 1))), (5, .int ((g_X8_bestJudge_49 b I sz ab i49).2.1)), (4, .int ((g_X8_bestJudge_49 b I sz ab i49).1)), (3, .int (ab - ab / 10 * 10)), (2, .int (ab / 10)), (0, .ref 0), (1, .int ab)]) (by decide) rfl (n := 123) rfl ?_
                  refine p_goto (z_dec zd_X8_bestJudge 63 rfl) (t := 49) (by decide) ?_
                  have eb : (g_X8_bestJudge_49 b I sz ab) (i49 + 1) = ((g_X8_bestJudge_49 b I sz ab i49).1, (g_X8_bestJudge_49 b I sz ab i49).2.1, (g_X8_bestJudge_49 b I sz ab i49).2.2) := by show gb_X8_bestJudge_49 b I sz ab i49 ((g_X8_bestJudge_49 b I sz ab) i49) = _; unfold gb_X8_bestJudge_49; rw [if_neg h64, if_pos h70]
                  refine z_lv (lv' := [(6, .int (nI (i49 + 1))), (5, .int ((g_X8_bestJudge_49 b I sz ab (i49 + 1)).2.1)), (4, .int ((g_X8_bestJudge_49 b I sz ab (i49 + 1)).1)), (3, .int (ab - ab / 10 * 10)), (2, .int (ab / 10)), (0, .ref 0), (1, .int ab)]) (by rw [eb]) rfl (by rw [eb]) (ih49 (by omega))
                · refine p_aload_n (z_dec zd_X8_bestJudge 40 rfl) rfl 5 rfl (n := 74) rfl ?_
                  refine q_getR (z_dec zd_X8_bestJudge 41 rfl) zf_X8_10 (i := 1) rfl rfl (n := 77) rfl ?_
                  refine p_iload (z_dec zd_X8_bestJudge 42 rfl) 0 rfl (n := 79) rfl ?_
                  refine q_callV (As := [.int (nI i49)]) (rest := []) (z_dec zd_X8_bestJudge 43 rfl) zk_X8_139 zv_X7_mayJudge (c_X7_mayJudge (d - 1) (by omega) b ((g_X8_bestJudge_49 b I sz ab i49).2.2) L 1 (z_Yd1 b) i49 (by omega)) rfl ⟨_, _, rfl⟩ rfl rfl (Nat.le_of_ble_eq_true rfl) (by omega) (n := 82) rfl ?_
                  show PW zm_X8_bestJudge d 82 [(6, .int (nI i49)), (5, .int ((g_X8_bestJudge_49 b I sz ab i49).2.1)), (4, .int ((g_X8_bestJudge_49 b I sz ab i49).1)), (3, .int (ab - ab / 10 * 10)), (2, .int (ab / 10)), (0, .ref 0), (1, .int ab)] [.int (f_X7_mayJudge ((g_X8_bestJudge_49 b I sz ab i49).2.2) 1 i49)] SH ((g_X8_bestJudge_49 b I sz ab i49).2.2, L, z_R b) 0 0 _
                  refine p_if_ne (z_dec zd_X8_bestJudge 44 rfl) (t := 88) (by decide) (n := 85) rfl (fun h82 => ?_) (fun h82 => ?_)
                  · refine p_aload_n (z_dec zd_X8_bestJudge 46 rfl) rfl 5 rfl (n := 89) rfl ?_
                    refine q_getR (z_dec zd_X8_bestJudge 47 rfl) zf_X8_26 (i := 13) rfl rfl (n := 92) rfl ?_
                    refine p_aload_n (z_dec zd_X8_bestJudge 48 rfl) rfl 5 rfl (n := 93) rfl ?_
                    refine q_getR (z_dec zd_X8_bestJudge 49 rfl) zf_X8_10 (i := 1) rfl rfl (n := 96) rfl ?_
                    refine p_iload_n (z_dec zd_X8_bestJudge 50 rfl) rfl 4 rfl (n := 97) rfl ?_
                    refine p_iload_n (z_dec zd_X8_bestJudge 51 rfl) rfl 3 rfl (n := 98) rfl ?_
                    refine p_iload (z_dec zd_X8_bestJudge 52 rfl) 0 rfl (n := 100) rfl ?_
                    refine q_callV (As := [.ref 1, .int (ab / 10), .int (ab - ab / 10 * 10), .int (nI i49)]) (rest := []) (z_dec zd_X8_bestJudge 53 rfl) zk_X8_126 zv_X1_oddsOn (c_X1_oddsOn (d - 1) (by omega) b ((g_X8_bestJudge_49 b I sz ab i49).2.2) L sz ((gi_X8_bestJudge_49_13_4 ..).trans hsz) hs121 1 (z_Yd1 b) (ab / 10) (ab - ab / 10 * 10) (nI i49) np ((gi_X8_bestJudge_49_1_0 ..).trans hnp) hn10) rfl ⟨_, _, rfl⟩ rfl rfl (Nat.le_of_ble_eq_true rfl) (by omega) (n := 103) rfl ?_
                    show PW zm_X8_bestJudge d 103 [(6, .int (nI i49)), (5, .int ((g_X8_bestJudge_49 b I sz ab i49).2.1)), (4, .int ((g_X8_bestJudge_49 b I sz ab i49).1)), (3, .int (ab - ab / 10 * 10)), (2, .int (ab / 10)), (0, .ref 0), (1, .int ab)] [.int (f_X1_oddsOn b ((g_X8_bestJudge_49 b I sz ab i49).2.2) sz 1 (ab / 10) (ab - ab / 10 * 10) (nI i49))] SH ((m_X1_oddsOn b ((g_X8_bestJudge_49 b I sz ab i49).2.2) sz 1 (ab / 10) (ab - ab / 10 * 10) (nI i49)), L, z_R b) 0 0 _
                    refine p_istore (z_dec zd_X8_bestJudge 54 rfl) (lv2 := [(7, .int (f_X1_oddsOn b ((g_X8_bestJudge_49 b I sz ab i49).2.2) sz 1 (ab / 10) (ab - ab / 10 * 10) (nI i49))), (6, .int (nI i49)), (5, .int ((g_X8_bestJudge_49 b I sz ab i49).2.1)), (4, .int ((g_X8_bestJudge_49 b I sz ab i49).1)), (3, .int (ab - ab / 10 * 10)), (2, .int (ab / 10)), (0, .ref 0), (1, .int ab)]) (by decide) rfl (n := 105) rfl ?_
                    refine p_iload (z_dec zd_X8_bestJudge 55 rfl) 0 rfl (n := 107) rfl ?_
                    refine p_iload (z_dec zd_X8_bestJudge 56 rfl) 2 rfl (n := 109) rfl ?_
                    refine p_icmp_le (z_dec zd_X8_bestJudge 57 rfl) (t := 120) (by decide) (n := 112) rfl (fun h109 => ?_) (fun h109 => ?_)
                    · refine p_iinc (z_dec zd_X8_bestJudge 62 rfl) 1 rfl (v := (nI (i49 + 1))) (nI_1 _) (lv2 := [(6, .int (nI (i49 + 1))), (7, .int (f_X1_oddsOn b ((g_X8_bestJudge_49 b I sz ab i49).2.2) sz 1 (ab / 10) (ab - ab / 10 * 10) (nI i49))), (5, .int ((g_X8_bestJudge_49 b I sz ab i49).2.1)), (4, .int ((g_X8_bestJudge_49 b I sz ab i49).1)), (3, .int (ab - ab / 10 * 10)), (2, .int (ab / 10)), (0, .ref 0), (1, .int ab)]) (by decide) rfl (n := 123) rfl ?_
                      refine p_goto (z_dec zd_X8_bestJudge 63 rfl) (t := 49) (by decide) ?_
                      refine z_sub (lv' := [(6, .int (nI (i49 + 1))), (5, .int ((g_X8_bestJudge_49 b I sz ab i49).2.1)), (4, .int ((g_X8_bestJudge_49 b I sz ab i49).1)), (3, .int (ab - ab / 10 * 10)), (2, .int (ab / 10)), (0, .ref 0), (1, .int ab)]) [0, 2, 3, 4, 5, 6, 7] rfl ?_
                      have eb : (g_X8_bestJudge_49 b I sz ab) (i49 + 1) = ((g_X8_bestJudge_49 b I sz ab i49).1, (g_X8_bestJudge_49 b I sz ab i49).2.1, (m_X1_oddsOn b ((g_X8_bestJudge_49 b I sz ab i49).2.2) sz 1 (ab / 10) (ab - ab / 10 * 10) (nI i49))) := by show gb_X8_bestJudge_49 b I sz ab i49 ((g_X8_bestJudge_49 b I sz ab) i49) = _; unfold gb_X8_bestJudge_49; rw [if_neg h64, if_neg h70, if_neg h82, if_pos h109]
                      refine z_lv (lv' := [(6, .int (nI (i49 + 1))), (5, .int ((g_X8_bestJudge_49 b I sz ab (i49 + 1)).2.1)), (4, .int ((g_X8_bestJudge_49 b I sz ab (i49 + 1)).1)), (3, .int (ab - ab / 10 * 10)), (2, .int (ab / 10)), (0, .ref 0), (1, .int ab)]) (by rw [eb]) rfl (by rw [eb]) (ih49 (by omega))
                    · refine p_iload (z_dec zd_X8_bestJudge 58 rfl) 0 rfl (n := 114) rfl ?_
                      refine p_istore (z_dec zd_X8_bestJudge 59 rfl) (lv2 := [(5, .int (f_X1_oddsOn b ((g_X8_bestJudge_49 b I sz ab i49).2.2) sz 1 (ab / 10) (ab - ab / 10 * 10) (nI i49))), (7, .int (f_X1_oddsOn b ((g_X8_bestJudge_49 b I sz ab i49).2.2) sz 1 (ab / 10) (ab - ab / 10 * 10) (nI i49))), (6, .int (nI i49)), (4, .int ((g_X8_bestJudge_49 b I sz ab i49).1)), (3, .int (ab - ab / 10 * 10)), (2, .int (ab / 10)), (0, .ref 0), (1, .int ab)]) (by decide) rfl (n := 116) rfl ?_
                      refine p_iload (z_dec zd_X8_bestJudge 60 rfl) 2 rfl (n := 118) rfl ?_
                      refine p_istore (z_dec zd_X8_bestJudge 61 rfl) (lv2 := [(4, .int (nI i49)), (5, .int (f_X1_oddsOn b ((g_X8_bestJudge_49 b I sz ab i49).2.2) sz 1 (ab / 10) (ab - ab / 10 * 10) (nI i49))), (7, .int (f_X1_oddsOn b ((g_X8_bestJudge_49 b I sz ab i49).2.2) sz 1 (ab / 10) (ab - ab / 10 * 10) (nI i49))), (6, .int (nI i49)), (3, .int (ab - ab / 10 * 10)), (2, .int (ab / 10)), (0, .ref 0), (1, .int ab)]) (by decide) rfl (n := 120) rfl ?_
                      refine p_iinc (z_dec zd_X8_bestJudge 62 rfl) 3 rfl (v := (nI (i49 + 1))) (nI_1 _) (lv2 := [(6, .int (nI (i49 + 1))), (4, .int (nI i49)), (5, .int (f_X1_oddsOn b ((g_X8_bestJudge_49 b I sz ab i49).2.2) sz 1 (ab / 10) (ab - ab / 10 * 10) (nI i49))), (7, .int (f_X1_oddsOn b ((g_X8_bestJudge_49 b I sz ab i49).2.2) sz 1 (ab / 10) (ab - ab / 10 * 10) (nI i49))), (3, .int (ab - ab / 10 * 10)), (2, .int (ab / 10)), (0, .ref 0), (1, .int ab)]) (by decide) rfl (n := 123) rfl ?_
                      refine p_goto (z_dec zd_X8_bestJudge 63 rfl) (t := 49) (by decide) ?_
                      refine z_sub (lv' := [(6, .int (nI (i49 + 1))), (5, .int (f_X1_oddsOn b ((g_X8_bestJudge_49 b I sz ab i49).2.2) sz 1 (ab / 10) (ab - ab / 10 * 10) (nI i49))), (4, .int (nI i49)), (3, .int (ab - ab / 10 * 10)), (2, .int (ab / 10)), (0, .ref 0), (1, .int ab)]) [0, 2, 1, 4, 5, 6, 7] rfl ?_
                      have eb : (g_X8_bestJudge_49 b I sz ab) (i49 + 1) = ((nI i49), (f_X1_oddsOn b ((g_X8_bestJudge_49 b I sz ab i49).2.2) sz 1 (ab / 10) (ab - ab / 10 * 10) (nI i49)), (m_X1_oddsOn b ((g_X8_bestJudge_49 b I sz ab i49).2.2) sz 1 (ab / 10) (ab - ab / 10 * 10) (nI i49))) := by show gb_X8_bestJudge_49 b I sz ab i49 ((g_X8_bestJudge_49 b I sz ab) i49) = _; unfold gb_X8_bestJudge_49; rw [if_neg h64, if_neg h70, if_neg h82, if_neg h109]
                      refine z_lv (lv' := [(6, .int (nI (i49 + 1))), (5, .int ((g_X8_bestJudge_49 b I sz ab (i49 + 1)).2.1)), (4, .int ((g_X8_bestJudge_49 b I sz ab (i49 + 1)).1)), (3, .int (ab - ab / 10 * 10)), (2, .int (ab / 10)), (0, .ref 0), (1, .int ab)]) (by rw [eb]) rfl (by rw [eb]) (ih49 (by omega))
                  · refine p_goto (z_dec zd_X8_bestJudge 45 rfl) (t := 120) (by decide) ?_
                    refine p_iinc (z_dec zd_X8_bestJudge 62 rfl) 0 rfl (v := (nI (i49 + 1))) (nI_1 _) (lv2 := [(6, .int (nI (i49 + 1))), (5, .int ((g_X8_bestJudge_49 b I sz ab i49).2.1)), (4, .int ((g_X8_bestJudge_49 b I sz ab i49).1)), (3, .int (ab - ab / 10 * 10)), (2, .int (ab / 10)), (0, .ref 0), (1, .int ab)]) (by decide) rfl (n := 123) rfl ?_
                    refine p_goto (z_dec zd_X8_bestJudge 63 rfl) (t := 49) (by decide) ?_
                    have eb : (g_X8_bestJudge_49 b I sz ab) (i49 + 1) = ((g_X8_bestJudge_49 b I sz ab i49).1, (g_X8_bestJudge_49 b I sz ab i49).2.1, (g_X8_bestJudge_49 b I sz ab i49).2.2) := by show gb_X8_bestJudge_49 b I sz ab i49 ((g_X8_bestJudge_49 b I sz ab) i49) = _; unfold gb_X8_bestJudge_49; rw [if_neg h64, if_neg h70, if_pos h82]
                    refine z_lv (lv' := [(6, .int (nI (i49 + 1))), (5, .int ((g_X8_bestJudge_49 b I sz ab (i49 + 1)).2.1)), (4, .int ((g_X8_bestJudge_49 b I sz ab (i49 + 1)).1)), (3, .int (ab - ab / 10 * 10)), (2, .int (ab / 10)), (0, .ref 0), (1, .int ab)]) (by rw [eb]) rfl (by rw [eb]) (ih49 (by omega))
          refine z_lv (lv' := [(6, .int (nI 0)), (5, .int ((g_X8_bestJudge_49 b I sz ab 0).2.1)), (4, .int ((g_X8_bestJudge_49 b I sz ab 0).1)), (3, .int (ab - ab / 10 * 10)), (2, .int (ab / 10)), (0, .ref 0), (1, .int ab)]) rfl rfl rfl (hL49 0 (Nat.zero_le _))
        · refine p_iconst (z_dec zd_X8_bestJudge 21 rfl) (v := (-1)) (by decide) (n := 38) rfl ?_
          exact p_iret (z_dec zd_X8_bestJudge 22 rfl) rfl ⟨(by unfold f_X8_bestJudge; rw [if_neg h18, if_neg h29, if_pos h34]), rfl, (z_3 (by unfold m_X8_bestJudge; rw [if_neg h18, if_neg h29, if_pos h34]) rfl)⟩
  exact hentry
