theorem z_oneL {np : Nat} {p : Int64} (hn10 : np ≤ 10) (h : ¬ f_X9_isOne np p = 0) : p.toInt32 = nI p.toInt32.toNatClampNeg ∧ p.toInt32.toNatClampNeg < np ∧ p = p.toInt32.toInt64 := by
  have hp : p = p.toInt32.toInt64 := by
    unfold f_X9_isOne at h
    obtain ⟨h1, h2⟩ := z_wi h
    rw [Int64.le_iff_toInt_le] at h1 h2
    have e0 : (0 : Int64).toInt = 0 := rfl
    have e1 : ((nI np - 1).toInt64).toInt ≤ 9 := by
      rw [Int32.toInt_toInt64]
      rcases Nat.eq_zero_or_pos np with e | e
      · subst e; decide
      · rw [z_pred e, nI_toInt (by omega)]; omega
    apply Int64.toInt_inj.mp
    rw [Int32.toInt_toInt64, Int64.toInt_toInt32]
    rw [Int.bmod_def]
    omega
  have h2 := h
  rw [hp] at h2
  obtain ⟨a1, a2⟩ := z_one hn10 h2
  exact ⟨a1, a2, hp⟩
theorem z_thrL {np : Nat} {a e u : Int64} (hn10 : np ≤ 10) (h : ¬ f_X9_areThree np a e u = 0) : ¬ f_X9_isOne np a = 0 ∧ ¬ f_X9_isOne np e = 0 ∧ ¬ f_X9_isOne np u = 0 := by
  unfold f_X9_areThree at h
  by_cases h1 : f_X9_isOne np a = 0
  · rw [if_pos h1] at h; exact absurd rfl h
  · rw [if_neg h1] at h
    by_cases h2 : f_X9_isOne np e = 0
    · rw [if_pos h2] at h; exact absurd rfl h
    · rw [if_neg h2] at h
      by_cases h3 : f_X9_isOne np u = 0
      · rw [if_pos h3] at h; exact absurd rfl h
      · exact ⟨h1, h2, h3⟩
def f_X9_told (L : Nat → Nat → Int64) (sh : Nat) (k : Nat) (w : Nat) : Int32 := ((L 77 (((60 * sh) + (3 * k)) + w)).toInt32)
set_option maxHeartbeats 4000000 in
set_option maxRecDepth 100000 in
theorem c_X9_told (d : Nat) (hd : 0 ≤ d) (b : Bool) (I : Nat → Nat → Int32) (L : Nat → Nat → Int64) (sh : Nat) (hsh : sh < 6) (k : Nat) (hk : k < 8) (w : Nat) (hw : w < 3) : z_CT zm_X9_told d [.ref 54, .int (nI sh), .int (nI k), .int (nI w)] SH (I, L, z_R b) 0 0 (z_ret (some (.int (f_X9_told L sh k w))) (I, L, z_R b)) := by
  refine z_enter (by decide +kernel) (Nat.le_of_ble_eq_true rfl) ?_
  have hentry : PW zm_X9_told d 0 [(0, .ref 54), (1, .int (nI sh)), (2, .int (nI k)), (3, .int (nI w))] [] SH (I, L, z_R b) 0 0 (z_ret (some (.int (f_X9_told L sh k w))) (I, L, z_R b)) := by
    refine p_aload_n (z_dec zd_X9_told 0 rfl) rfl 0 rfl (n := 1) rfl ?_
    refine q_getR (z_dec zd_X9_told 1 rfl) zf_X9_76 (i := 77) rfl rfl (n := 4) rfl ?_
    refine p_bipush (z_dec zd_X9_told 2 rfl) (v := 60) (by decide) (n := 6) rfl ?_
    refine p_iload_n (z_dec zd_X9_told 3 rfl) rfl 1 rfl (n := 7) rfl ?_
    refine p_imul (z_dec zd_X9_told 4 rfl) (n := 8) rfl ?_
    refine p_iconst (z_dec zd_X9_told 5 rfl) (v := 3) (by decide) (n := 9) rfl ?_
    refine p_iload_n (z_dec zd_X9_told 6 rfl) rfl 2 rfl (n := 10) rfl ?_
    refine p_imul (z_dec zd_X9_told 7 rfl) (n := 11) rfl ?_
    refine p_iadd (z_dec zd_X9_told 8 rfl) (n := 12) rfl ?_
    refine p_iload_n (z_dec zd_X9_told 9 rfl) rfl 3 rfl (n := 13) rfl ?_
    refine p_iadd (z_dec zd_X9_told 10 rfl) (n := 14) rfl ?_
    refine q_lald (z_dec zd_X9_told 11 rfl) rfl (by decide) (((60 * sh) + (3 * k)) + w) (z_addE (z_addE (z_mulE rfl rfl) (z_mulE rfl rfl)) rfl) (by omega) (v := (L 77 (((60 * sh) + (3 * k)) + w))) rfl (n := 15) rfl ?_
    refine p_l2i (z_dec zd_X9_told 12 rfl) (n := 16) rfl ?_
    exact p_iret (z_dec zd_X9_told 13 rfl) rfl ⟨(by unfold f_X9_told; rfl), rfl, rfl⟩
  exact hentry
def f_X9_isNext (I : Nat → Nat → Int32) (L : Nat → Nat → Int64) (np : Nat) (sh : Nat) (k : Nat) : Int32 := if 8 ≤ (nI k) then 0 else if (I 76 sh) ≤ ((3 * (nI k)) + 2) then 0 else if (f_X9_areThree np (L 77 ((60 * sh) + (3 * k))) (L 77 (((60 * sh) + (3 * k)) + 1)) (L 77 (((60 * sh) + (3 * k)) + 2))) = 0 then 0 else if (f_X9_canBeHeld I (((L 77 ((60 * sh) + (3 * k))).toInt32).toNatClampNeg) (((L 77 (((60 * sh) + (3 * k)) + 1)).toInt32).toNatClampNeg) (((L 77 (((60 * sh) + (3 * k)) + 2)).toInt32).toNatClampNeg)) = 0 then 0 else 1
set_option maxHeartbeats 4000000 in
set_option maxRecDepth 100000 in
theorem c_X9_isNext (d : Nat) (hd : 3 ≤ d) (b : Bool) (I : Nat → Nat → Int32) (L : Nat → Nat → Int64) (np : Nat) (hnp : I 54 6 = nI np) (hn10 : np ≤ 10) (sh : Nat) (hsh : sh < 6) (k : Nat) (hk : k < 100) : z_CT zm_X9_isNext d [.ref 54, .int (nI sh), .int (nI k)] SH (I, L, z_R b) 0 0 (z_ret (some (.int (f_X9_isNext I L np sh k))) (I, L, z_R b)) := by
  refine z_enter (by decide +kernel) (Nat.le_of_ble_eq_true rfl) ?_
  have hentry : PW zm_X9_isNext d 0 [(0, .ref 54), (1, .int (nI sh)), (2, .int (nI k))] [] SH (I, L, z_R b) 0 0 (z_ret (some (.int (f_X9_isNext I L np sh k))) (I, L, z_R b)) := by
    refine p_bipush (z_dec zd_X9_isNext 0 rfl) (v := 60) (by decide) (n := 2) rfl ?_
    refine p_iload_n (z_dec zd_X9_isNext 1 rfl) rfl 1 rfl (n := 3) rfl ?_
    refine p_imul (z_dec zd_X9_isNext 2 rfl) (n := 4) rfl ?_
    refine p_iconst (z_dec zd_X9_isNext 3 rfl) (v := 3) (by decide) (n := 5) rfl ?_
    refine p_iload_n (z_dec zd_X9_isNext 4 rfl) rfl 2 rfl (n := 6) rfl ?_
    refine p_imul (z_dec zd_X9_isNext 5 rfl) (n := 7) rfl ?_
    refine p_iadd (z_dec zd_X9_isNext 6 rfl) (n := 8) rfl ?_
    refine p_istore_n (z_dec zd_X9_isNext 7 rfl) rfl (lv2 := [(3, .int ((60 * (nI sh)) + (3 * (nI k)))), (0, .ref 54), (1, .int (nI sh)), (2, .int (nI k))]) (by decide) rfl (n := 9) rfl ?_
    refine p_iload_n (z_dec zd_X9_isNext 8 rfl) rfl 3 rfl (n := 10) rfl ?_
    refine p_bipush (z_dec zd_X9_isNext 9 rfl) (v := 8) (by decide) (n := 12) rfl ?_
    refine p_icmp_ge (z_dec zd_X9_isNext 10 rfl) (t := 94) (by decide) (n := 15) rfl (fun h12 => ?_) (fun h12 => ?_)
    · refine p_iconst (z_dec zd_X9_isNext 64 rfl) (v := 0) (by decide) (n := 95) rfl ?_
      exact p_zret (z_dec zd_X9_isNext 65 rfl) rfl (Or.inl rfl) ⟨(by unfold f_X9_isNext; rw [if_pos h12]), rfl, rfl⟩
    · have hk8 : k < 8 := z_nge (a := 8) h12
      refine p_iconst (z_dec zd_X9_isNext 11 rfl) (v := 3) (by decide) (n := 16) rfl ?_
      refine p_iload_n (z_dec zd_X9_isNext 12 rfl) rfl 3 rfl (n := 17) rfl ?_
      refine p_imul (z_dec zd_X9_isNext 13 rfl) (n := 18) rfl ?_
      refine p_iconst (z_dec zd_X9_isNext 14 rfl) (v := 2) (by decide) (n := 19) rfl ?_
      refine p_iadd (z_dec zd_X9_isNext 15 rfl) (n := 20) rfl ?_
      refine p_aload_n (z_dec zd_X9_isNext 16 rfl) rfl 1 rfl (n := 21) rfl ?_
      refine q_getR (z_dec zd_X9_isNext 17 rfl) zf_X9_73 (i := 76) rfl rfl (n := 24) rfl ?_
      refine p_iload_n (z_dec zd_X9_isNext 18 rfl) rfl 2 rfl (n := 25) rfl ?_
      refine q_iald (z_dec zd_X9_isNext 19 rfl) rfl (by decide) (sh) rfl (by omega) (v := (I 76 sh)) rfl (n := 26) rfl ?_
      refine p_icmp_ge (z_dec zd_X9_isNext 20 rfl) (t := 94) (by decide) (n := 29) rfl (fun h26 => ?_) (fun h26 => ?_)
      · refine p_iconst (z_dec zd_X9_isNext 64 rfl) (v := 0) (by decide) (n := 95) rfl ?_
        exact p_zret (z_dec zd_X9_isNext 65 rfl) rfl (Or.inl rfl) ⟨(by unfold f_X9_isNext; rw [if_neg h12, if_pos h26]), rfl, rfl⟩
      · refine p_aload_n (z_dec zd_X9_isNext 21 rfl) rfl 1 rfl (n := 30) rfl ?_
        refine p_aload_n (z_dec zd_X9_isNext 22 rfl) rfl 1 rfl (n := 31) rfl ?_
        refine q_getR (z_dec zd_X9_isNext 23 rfl) zf_X9_76 (i := 77) rfl rfl (n := 34) rfl ?_
        refine p_iload_n (z_dec zd_X9_isNext 24 rfl) rfl 0 rfl (n := 35) rfl ?_
        refine q_lald (z_dec zd_X9_isNext 25 rfl) rfl (by decide) ((60 * sh) + (3 * k)) (z_addE (z_mulE rfl rfl) (z_mulE rfl rfl)) (by omega) (v := (L 77 ((60 * sh) + (3 * k)))) rfl (n := 36) rfl ?_
        refine p_aload_n (z_dec zd_X9_isNext 26 rfl) rfl 1 rfl (n := 37) rfl ?_
        refine q_getR (z_dec zd_X9_isNext 27 rfl) zf_X9_76 (i := 77) rfl rfl (n := 40) rfl ?_
        refine p_iload_n (z_dec zd_X9_isNext 28 rfl) rfl 0 rfl (n := 41) rfl ?_
        refine p_iconst (z_dec zd_X9_isNext 29 rfl) (v := 1) (by decide) (n := 42) rfl ?_
        refine p_iadd (z_dec zd_X9_isNext 30 rfl) (n := 43) rfl ?_
        refine q_lald (z_dec zd_X9_isNext 31 rfl) rfl (by decide) (((60 * sh) + (3 * k)) + 1) (z_addE (z_addE (z_mulE rfl rfl) (z_mulE rfl rfl)) rfl) (by omega) (v := (L 77 (((60 * sh) + (3 * k)) + 1))) rfl (n := 44) rfl ?_
        refine p_aload_n (z_dec zd_X9_isNext 32 rfl) rfl 1 rfl (n := 45) rfl ?_
        refine q_getR (z_dec zd_X9_isNext 33 rfl) zf_X9_76 (i := 77) rfl rfl (n := 48) rfl ?_
        refine p_iload_n (z_dec zd_X9_isNext 34 rfl) rfl 0 rfl (n := 49) rfl ?_
        refine p_iconst (z_dec zd_X9_isNext 35 rfl) (v := 2) (by decide) (n := 50) rfl ?_
        refine p_iadd (z_dec zd_X9_isNext 36 rfl) (n := 51) rfl ?_
        refine q_lald (z_dec zd_X9_isNext 37 rfl) rfl (by decide) (((60 * sh) + (3 * k)) + 2) (z_addE (z_addE (z_mulE rfl rfl) (z_mulE rfl rfl)) rfl) (by omega) (v := (L 77 (((60 * sh) + (3 * k)) + 2))) rfl (n := 52) rfl ?_
        refine q_callV (As := [.long (L 77 ((60 * sh) + (3 * k))), .long (L 77 (((60 * sh) + (3 * k)) + 1)), .long (L 77 (((60 * sh) + (3 * k)) + 2))]) (rest := []) (z_dec zd_X9_isNext 38 rfl) zk_X9_200 zv_X9_areThree (c_X9_areThree (d - 1) (by omega) b I L np hnp hn10 (L 77 ((60 * sh) + (3 * k))) (L 77 (((60 * sh) + (3 * k)) + 1)) (L 77 (((60 * sh) + (3 * k)) + 2))) rfl ⟨_, _, rfl⟩ rfl rfl (Nat.le_of_ble_eq_true rfl) (by omega) (n := 55) rfl ?_
        show PW zm_X9_isNext d 55 [(3, .int ((60 * (nI sh)) + (3 * (nI k)))), (0, .ref 54), (1, .int (nI sh)), (2, .int (nI k))] [.int (f_X9_areThree np (L 77 ((60 * sh) + (3 * k))) (L 77 (((60 * sh) + (3 * k)) + 1)) (L 77 (((60 * sh) + (3 * k)) + 2)))] SH (I, L, z_R b) 0 0 _
        refine p_if_eq (z_dec zd_X9_isNext 39 rfl) (t := 94) (by decide) (n := 58) rfl (fun h55 => ?_) (fun h55 => ?_)
        · refine p_iconst (z_dec zd_X9_isNext 64 rfl) (v := 0) (by decide) (n := 95) rfl ?_
          exact p_zret (z_dec zd_X9_isNext 65 rfl) rfl (Or.inl rfl) ⟨(by unfold f_X9_isNext; rw [if_neg h12, if_neg h26, if_pos h55]), rfl, rfl⟩
        · have hj := z_thrL hn10 h55
          refine p_aload_n (z_dec zd_X9_isNext 40 rfl) rfl 1 rfl (n := 59) rfl ?_
          refine p_aload_n (z_dec zd_X9_isNext 41 rfl) rfl 1 rfl (n := 60) rfl ?_
          refine q_getR (z_dec zd_X9_isNext 42 rfl) zf_X9_76 (i := 77) rfl rfl (n := 63) rfl ?_
          refine p_iload_n (z_dec zd_X9_isNext 43 rfl) rfl 0 rfl (n := 64) rfl ?_
          refine q_lald (z_dec zd_X9_isNext 44 rfl) rfl (by decide) ((60 * sh) + (3 * k)) (z_addE (z_mulE rfl rfl) (z_mulE rfl rfl)) (by omega) (v := (L 77 ((60 * sh) + (3 * k)))) rfl (n := 65) rfl ?_
          refine p_l2i (z_dec zd_X9_isNext 45 rfl) (n := 66) rfl ?_
          refine p_aload_n (z_dec zd_X9_isNext 46 rfl) rfl 1 rfl (n := 67) rfl ?_
          refine q_getR (z_dec zd_X9_isNext 47 rfl) zf_X9_76 (i := 77) rfl rfl (n := 70) rfl ?_
          refine p_iload_n (z_dec zd_X9_isNext 48 rfl) rfl 0 rfl (n := 71) rfl ?_
          refine p_iconst (z_dec zd_X9_isNext 49 rfl) (v := 1) (by decide) (n := 72) rfl ?_
          refine p_iadd (z_dec zd_X9_isNext 50 rfl) (n := 73) rfl ?_
          refine q_lald (z_dec zd_X9_isNext 51 rfl) rfl (by decide) (((60 * sh) + (3 * k)) + 1) (z_addE (z_addE (z_mulE rfl rfl) (z_mulE rfl rfl)) rfl) (by omega) (v := (L 77 (((60 * sh) + (3 * k)) + 1))) rfl (n := 74) rfl ?_
          refine p_l2i (z_dec zd_X9_isNext 52 rfl) (n := 75) rfl ?_
          refine p_aload_n (z_dec zd_X9_isNext 53 rfl) rfl 1 rfl (n := 76) rfl ?_
          refine q_getR (z_dec zd_X9_isNext 54 rfl) zf_X9_76 (i := 77) rfl rfl (n := 79) rfl ?_
          refine p_iload_n (z_dec zd_X9_isNext 55 rfl) rfl 0 rfl (n := 80) rfl ?_
          refine p_iconst (z_dec zd_X9_isNext 56 rfl) (v := 2) (by decide) (n := 81) rfl ?_
          refine p_iadd (z_dec zd_X9_isNext 57 rfl) (n := 82) rfl ?_
          refine q_lald (z_dec zd_X9_isNext 58 rfl) rfl (by decide) (((60 * sh) + (3 * k)) + 2) (z_addE (z_addE (z_mulE rfl rfl) (z_mulE rfl rfl)) rfl) (by omega) (v := (L 77 (((60 * sh) + (3 * k)) + 2))) rfl (n := 83) rfl ?_
          refine p_l2i (z_dec zd_X9_isNext 59 rfl) (n := 84) rfl ?_
          refine q_callV (As := [.int (nI (((L 77 ((60 * sh) + (3 * k))).toInt32).toNatClampNeg)), .int (nI (((L 77 (((60 * sh) + (3 * k)) + 1)).toInt32).toNatClampNeg)), .int (nI (((L 77 (((60 * sh) + (3 * k)) + 2)).toInt32).toNatClampNeg))]) (rest := []) (z_dec zd_X9_isNext 60 rfl) zk_X9_219 zv_X9_canBeHeld (c_X9_canBeHeld (d - 1) (by omega) b I L (((L 77 ((60 * sh) + (3 * k))).toInt32).toNatClampNeg) (Nat.lt_of_lt_of_le (z_oneL hn10 hj.1).2.1 hn10) (((L 77 (((60 * sh) + (3 * k)) + 1)).toInt32).toNatClampNeg) (Nat.lt_of_lt_of_le (z_oneL hn10 hj.2.1).2.1 hn10) (((L 77 (((60 * sh) + (3 * k)) + 2)).toInt32).toNatClampNeg) (Nat.lt_of_lt_of_le (z_oneL hn10 hj.2.2).2.1 hn10)) rfl ⟨_, _, rfl⟩ (by simp only [← (z_oneL hn10 hj.1).1, ← (z_oneL hn10 hj.2.1).1, ← (z_oneL hn10 hj.2.2).1]; rfl) rfl (Nat.le_of_ble_eq_true rfl) (by omega) (n := 87) rfl ?_
          show PW zm_X9_isNext d 87 [(3, .int ((60 * (nI sh)) + (3 * (nI k)))), (0, .ref 54), (1, .int (nI sh)), (2, .int (nI k))] [.int (f_X9_canBeHeld I (((L 77 ((60 * sh) + (3 * k))).toInt32).toNatClampNeg) (((L 77 (((60 * sh) + (3 * k)) + 1)).toInt32).toNatClampNeg) (((L 77 (((60 * sh) + (3 * k)) + 2)).toInt32).toNatClampNeg))] SH (I, L, z_R b) 0 0 _
          refine p_if_eq (z_dec zd_X9_isNext 61 rfl) (t := 94) (by decide) (n := 90) rfl (fun h87 => ?_) (fun h87 => ?_)
          · refine p_iconst (z_dec zd_X9_isNext 64 rfl) (v := 0) (by decide) (n := 95) rfl ?_
            exact p_zret (z_dec zd_X9_isNext 65 rfl) rfl (Or.inl rfl) ⟨(by unfold f_X9_isNext; rw [if_neg h12, if_neg h26, if_neg h55, if_pos h87]), rfl, rfl⟩
          · refine p_iconst (z_dec zd_X9_isNext 62 rfl) (v := 1) (by decide) (n := 91) rfl ?_
            refine p_goto (z_dec zd_X9_isNext 63 rfl) (t := 95) (by decide) ?_
            exact p_zret (z_dec zd_X9_isNext 65 rfl) rfl (Or.inr rfl) ⟨(by unfold f_X9_isNext; rw [if_neg h12, if_neg h26, if_neg h55, if_neg h87]), rfl, rfl⟩
  exact hentry
theorem fb_X9_isNext (I : Nat → Nat → Int32) (L : Nat → Nat → Int64) (np : Nat) (sh : Nat) (k : Nat) : f_X9_isNext I L np sh k = 0 ∨ f_X9_isNext I L np sh k = 1 := by
  unfold f_X9_isNext
  (repeat' split) <;> first | exact Or.inl rfl | exact Or.inr rfl
def gb_X9_back_12 (I : Nat → Nat → Int32) (i12 : Nat) (s : (Nat → Nat → Int32)) : (Nat → Nat → Int32) := (z_up (z_up (z_up s 55 (10 + i12) (s 71 (10 + i12))) 55 (20 + i12) (s 71 (20 + i12))) 55 (30 + i12) (s 71 (30 + i12)))
def g_X9_back_12 (I : Nat → Nat → Int32) : Nat → (Nat → Nat → Int32)
  | 0 => I
  | i12 + 1 => gb_X9_back_12 I i12 (g_X9_back_12 I i12)
theorem gi_X9_back_12_54_29 (I : Nat → Nat → Int32) : ∀ i12, (g_X9_back_12 I i12) 54 29 = I 54 29
  | 0 => rfl
  | i12 + 1 => by
    have ih := gi_X9_back_12_54_29 I i12
    show (gb_X9_back_12 I i12 (g_X9_back_12 I i12)) 54 29 = _
    unfold gb_X9_back_12
    (repeat' split) <;> simp [z_up, ih]
def gb_X9_back_110 (I : Nat → Nat → Int32) (ip : Nat) (i110 : Nat) (s : (Nat → Nat → Int32)) : (Nat → Nat → Int32) := (z_up s 70 i110 (s 72 i110))
def g_X9_back_110 (I : Nat → Nat → Int32) (ip : Nat) : Nat → (Nat → Nat → Int32)
  | 0 => (z_up (z_up (g_X9_back_12 I ip) 55 40 ((g_X9_back_12 I ip) 71 40)) 55 41 ((g_X9_back_12 I ip) 71 41))
  | i110 + 1 => gb_X9_back_110 I ip i110 (g_X9_back_110 I ip i110)
def f_X9_back (I : Nat → Nat → Int32) (ip : Nat) : Int32 := if (I 54 28) = 0 then (-5) else ((g_X9_back_110 I ip 5) 70 0)
def m_X9_back (I : Nat → Nat → Int32) (ip : Nat) : Nat → Nat → Int32 := if (I 54 28) = 0 then I else (g_X9_back_110 I ip 5)
set_option maxHeartbeats 4000000 in
set_option maxRecDepth 100000 in
theorem c_X9_back (d : Nat) (hd : 0 ≤ d) (b : Bool) (I : Nat → Nat → Int32) (L : Nat → Nat → Int64) (ip : Nat) (hip : I 54 29 = nI ip) (hi10 : ip ≤ 10) : z_CT zm_X9_back d [.ref 54] SH (I, L, z_R b) 0 0 (z_ret (some (.int (f_X9_back I ip))) ((m_X9_back I ip), L, z_R b)) := by
  refine z_enter (by decide +kernel) (Nat.le_of_ble_eq_true rfl) ?_
  have hentry : PW zm_X9_back d 0 [(0, .ref 54)] [] SH (I, L, z_R b) 0 0 (z_ret (some (.int (f_X9_back I ip))) ((m_X9_back I ip), L, z_R b)) := by
    refine p_aload_n (z_dec zd_X9_back 0 rfl) rfl 0 rfl (n := 1) rfl ?_
    refine q_getI (z_dec zd_X9_back 1 rfl) zf_X9_285 (by decide) rfl (v := (I 54 28)) rfl (n := 4) rfl ?_
    refine p_if_ne (z_dec zd_X9_back 2 rfl) (t := 10) (by decide) (n := 7) rfl (fun h4 => ?_) (fun h4 => ?_)
    · refine p_iconst (z_dec zd_X9_back 5 rfl) (v := 0) (by decide) (n := 11) rfl ?_
      refine p_istore_n (z_dec zd_X9_back 6 rfl) rfl (lv2 := [(1, .int 0), (0, .ref 54)]) (by decide) rfl (n := 12) rfl ?_
      have hL12 : ∀ i12, i12 ≤ ip → PW zm_X9_back d 12 [(1, .int (nI i12)), (0, .ref 54)] [] SH ((g_X9_back_12 I i12), L, z_R b) 0 0 (z_ret (some (.int (f_X9_back I ip))) ((m_X9_back I ip), L, z_R b)) := by
        refine z_down ip (fun i12 hi12 ih12 => ?_)
        refine p_iload_n (z_dec zd_X9_back 7 rfl) rfl 0 rfl (n := 13) rfl ?_
        refine p_aload_n (z_dec zd_X9_back 8 rfl) rfl 1 rfl (n := 14) rfl ?_
        refine q_getI (z_dec zd_X9_back 9 rfl) zf_X9_289 (by decide) rfl (v := (nI ip)) ((gi_X9_back_12_54_29 I i12).trans hip) (n := 17) rfl ?_
        refine p_icmp_ge (z_dec zd_X9_back 10 rfl) (t := 80) (by decide) (n := 20) rfl (fun h17 => ?_) (fun h17 => ?_)
        · have hx12 : i12 = ip := by have := z_ge (a := ip) h17; omega
          rw [hx12]
          refine p_aload_n (z_dec zd_X9_back 49 rfl) rfl 1 rfl (n := 81) rfl ?_
          refine q_getR (z_dec zd_X9_back 50 rfl) zf_X9_9 (i := 55) rfl rfl (n := 84) rfl ?_
          refine p_bipush (z_dec zd_X9_back 51 rfl) (v := 40) (by decide) (n := 86) rfl ?_
          refine p_aload_n (z_dec zd_X9_back 52 rfl) rfl 1 rfl (n := 87) rfl ?_
          refine q_getR (z_dec zd_X9_back 53 rfl) zf_X9_58 (i := 71) rfl rfl (n := 90) rfl ?_
          refine p_bipush (z_dec zd_X9_back 54 rfl) (v := 40) (by decide) (n := 92) rfl ?_
          refine q_iald (z_dec zd_X9_back 55 rfl) rfl (by decide) (40) rfl (by decide) (v := ((g_X9_back_12 I ip) 71 40)) rfl (n := 93) rfl ?_
          refine q_iast (z_dec zd_X9_back 56 rfl) rfl (by decide) (40) rfl (by decide) (n := 94) rfl ?_
          refine p_aload_n (z_dec zd_X9_back 57 rfl) rfl 1 rfl (n := 95) rfl ?_
          refine q_getR (z_dec zd_X9_back 58 rfl) zf_X9_9 (i := 55) rfl rfl (n := 98) rfl ?_
          refine p_bipush (z_dec zd_X9_back 59 rfl) (v := 41) (by decide) (n := 100) rfl ?_
          refine p_aload_n (z_dec zd_X9_back 60 rfl) rfl 1 rfl (n := 101) rfl ?_
          refine q_getR (z_dec zd_X9_back 61 rfl) zf_X9_58 (i := 71) rfl rfl (n := 104) rfl ?_
          refine p_bipush (z_dec zd_X9_back 62 rfl) (v := 41) (by decide) (n := 106) rfl ?_
          refine q_iald (z_dec zd_X9_back 63 rfl) rfl (by decide) (41) rfl (by decide) (v := ((g_X9_back_12 I ip) 71 41)) rfl (n := 107) rfl ?_
          refine q_iast (z_dec zd_X9_back 64 rfl) rfl (by decide) (41) rfl (by decide) (n := 108) rfl ?_
          refine p_iconst (z_dec zd_X9_back 65 rfl) (v := 0) (by decide) (n := 109) rfl ?_
          refine p_istore_n (z_dec zd_X9_back 66 rfl) rfl (lv2 := [(1, .int 0), (0, .ref 54)]) (by decide) rfl (n := 110) rfl ?_
          have hL110 : ∀ i110, i110 ≤ 5 → PW zm_X9_back d 110 [(1, .int (nI i110)), (0, .ref 54)] [] SH ((g_X9_back_110 I ip i110), L, z_R b) 0 0 (z_ret (some (.int (f_X9_back I ip))) ((m_X9_back I ip), L, z_R b)) := by
            refine z_down 5 (fun i110 hi110 ih110 => ?_)
            refine p_iload_n (z_dec zd_X9_back 67 rfl) rfl 0 rfl (n := 111) rfl ?_
            refine p_iconst (z_dec zd_X9_back 68 rfl) (v := 5) (by decide) (n := 112) rfl ?_
            refine p_icmp_ge (z_dec zd_X9_back 69 rfl) (t := 133) (by decide) (n := 115) rfl (fun h112 => ?_) (fun h112 => ?_)
            · have hx110 : i110 = 5 := by have := z_ge (a := 5) h112; omega
              rw [hx110]
              refine p_aload_n (z_dec zd_X9_back 80 rfl) rfl 1 rfl (n := 134) rfl ?_
              refine q_getR (z_dec zd_X9_back 81 rfl) zf_X9_55 (i := 70) rfl rfl (n := 137) rfl ?_
              refine p_iconst (z_dec zd_X9_back 82 rfl) (v := 0) (by decide) (n := 138) rfl ?_
              refine q_iald (z_dec zd_X9_back 83 rfl) rfl (by decide) (0) rfl (by decide) (v := ((g_X9_back_110 I ip 5) 70 0)) rfl (n := 139) rfl ?_
              exact p_iret (z_dec zd_X9_back 84 rfl) rfl ⟨(by unfold f_X9_back; rw [if_neg h4]), rfl, (z_3 (by unfold m_X9_back; rw [if_neg h4]) rfl)⟩
            · have hx110 : i110 < 5 := by have := z_nge (a := 5) h112; omega
              refine p_aload_n (z_dec zd_X9_back 70 rfl) rfl 1 rfl (n := 116) rfl ?_
              refine q_getR (z_dec zd_X9_back 71 rfl) zf_X9_55 (i := 70) rfl rfl (n := 119) rfl ?_
              refine p_iload_n (z_dec zd_X9_back 72 rfl) rfl 0 rfl (n := 120) rfl ?_
              refine p_aload_n (z_dec zd_X9_back 73 rfl) rfl 1 rfl (n := 121) rfl ?_
              refine q_getR (z_dec zd_X9_back 74 rfl) zf_X9_61 (i := 72) rfl rfl (n := 124) rfl ?_
              refine p_iload_n (z_dec zd_X9_back 75 rfl) rfl 0 rfl (n := 125) rfl ?_
              refine q_iald (z_dec zd_X9_back 76 rfl) rfl (by decide) (i110) rfl (by omega) (v := ((g_X9_back_110 I ip i110) 72 i110)) rfl (n := 126) rfl ?_
              refine q_iast (z_dec zd_X9_back 77 rfl) rfl (by decide) (i110) rfl (by omega) (n := 127) rfl ?_
              refine p_iinc (z_dec zd_X9_back 78 rfl) 0 rfl (v := (nI (i110 + 1))) (nI_1 _) (lv2 := [(1, .int (nI (i110 + 1))), (0, .ref 54)]) (by decide) rfl (n := 130) rfl ?_
              refine p_goto (z_dec zd_X9_back 79 rfl) (t := 110) (by decide) ?_
              have eb : (g_X9_back_110 I ip) (i110 + 1) = (z_up (g_X9_back_110 I ip i110) 70 i110 ((g_X9_back_110 I ip i110) 72 i110)) := by show gb_X9_back_110 I ip i110 ((g_X9_back_110 I ip) i110) = _; unfold gb_X9_back_110; rfl
              refine z_lv (lv' := [(1, .int (nI (i110 + 1))), (0, .ref 54)]) rfl rfl (by rw [eb]) (ih110 (by omega))
          refine z_lv (lv' := [(1, .int (nI 0)), (0, .ref 54)]) rfl rfl rfl (hL110 0 (Nat.zero_le _))
        · have hx12 : i12 < ip := by have := z_nge (a := ip) h17; omega
          refine p_aload_n (z_dec zd_X9_back 11 rfl) rfl 1 rfl (n := 21) rfl ?_
          refine q_getR (z_dec zd_X9_back 12 rfl) zf_X9_9 (i := 55) rfl rfl (n := 24) rfl ?_
          refine p_bipush (z_dec zd_X9_back 13 rfl) (v := 10) (by decide) (n := 26) rfl ?_
          refine p_iload_n (z_dec zd_X9_back 14 rfl) rfl 0 rfl (n := 27) rfl ?_
          refine p_iadd (z_dec zd_X9_back 15 rfl) (n := 28) rfl ?_
          refine p_aload_n (z_dec zd_X9_back 16 rfl) rfl 1 rfl (n := 29) rfl ?_
          refine q_getR (z_dec zd_X9_back 17 rfl) zf_X9_58 (i := 71) rfl rfl (n := 32) rfl ?_
          refine p_bipush (z_dec zd_X9_back 18 rfl) (v := 10) (by decide) (n := 34) rfl ?_
          refine p_iload_n (z_dec zd_X9_back 19 rfl) rfl 0 rfl (n := 35) rfl ?_
          refine p_iadd (z_dec zd_X9_back 20 rfl) (n := 36) rfl ?_
          refine q_iald (z_dec zd_X9_back 21 rfl) rfl (by decide) (10 + i12) (z_addE rfl rfl) (by omega) (v := ((g_X9_back_12 I i12) 71 (10 + i12))) rfl (n := 37) rfl ?_
          refine q_iast (z_dec zd_X9_back 22 rfl) rfl (by decide) (10 + i12) (z_addE rfl rfl) (by omega) (n := 38) rfl ?_
          refine p_aload_n (z_dec zd_X9_back 23 rfl) rfl 1 rfl (n := 39) rfl ?_
          refine q_getR (z_dec zd_X9_back 24 rfl) zf_X9_9 (i := 55) rfl rfl (n := 42) rfl ?_
          refine p_bipush (z_dec zd_X9_back 25 rfl) (v := 20) (by decide) (n := 44) rfl ?_
          refine p_iload_n (z_dec zd_X9_back 26 rfl) rfl 0 rfl (n := 45) rfl ?_
          refine p_iadd (z_dec zd_X9_back 27 rfl) (n := 46) rfl ?_
          refine p_aload_n (z_dec zd_X9_back 28 rfl) rfl 1 rfl (n := 47) rfl ?_
          refine q_getR (z_dec zd_X9_back 29 rfl) zf_X9_58 (i := 71) rfl rfl (n := 50) rfl ?_
          refine p_bipush (z_dec zd_X9_back 30 rfl) (v := 20) (by decide) (n := 52) rfl ?_
          refine p_iload_n (z_dec zd_X9_back 31 rfl) rfl 0 rfl (n := 53) rfl ?_
          refine p_iadd (z_dec zd_X9_back 32 rfl) (n := 54) rfl ?_
          refine q_iald (z_dec zd_X9_back 33 rfl) rfl (by decide) (20 + i12) (z_addE rfl rfl) (by omega) (v := ((g_X9_back_12 I i12) 71 (20 + i12))) rfl (n := 55) rfl ?_
          refine q_iast (z_dec zd_X9_back 34 rfl) rfl (by decide) (20 + i12) (z_addE rfl rfl) (by omega) (n := 56) rfl ?_
          refine p_aload_n (z_dec zd_X9_back 35 rfl) rfl 1 rfl (n := 57) rfl ?_
          refine q_getR (z_dec zd_X9_back 36 rfl) zf_X9_9 (i := 55) rfl rfl (n := 60) rfl ?_
          refine p_bipush (z_dec zd_X9_back 37 rfl) (v := 30) (by decide) (n := 62) rfl ?_
          refine p_iload_n (z_dec zd_X9_back 38 rfl) rfl 0 rfl (n := 63) rfl ?_
          refine p_iadd (z_dec zd_X9_back 39 rfl) (n := 64) rfl ?_
          refine p_aload_n (z_dec zd_X9_back 40 rfl) rfl 1 rfl (n := 65) rfl ?_
          refine q_getR (z_dec zd_X9_back 41 rfl) zf_X9_58 (i := 71) rfl rfl (n := 68) rfl ?_
          refine p_bipush (z_dec zd_X9_back 42 rfl) (v := 30) (by decide) (n := 70) rfl ?_
          refine p_iload_n (z_dec zd_X9_back 43 rfl) rfl 0 rfl (n := 71) rfl ?_
          refine p_iadd (z_dec zd_X9_back 44 rfl) (n := 72) rfl ?_
          refine q_iald (z_dec zd_X9_back 45 rfl) rfl (by decide) (30 + i12) (z_addE rfl rfl) (by omega) (v := ((g_X9_back_12 I i12) 71 (30 + i12))) rfl (n := 73) rfl ?_
          refine q_iast (z_dec zd_X9_back 46 rfl) rfl (by decide) (30 + i12) (z_addE rfl rfl) (by omega) (n := 74) rfl ?_
          refine p_iinc (z_dec zd_X9_back 47 rfl) 0 rfl (v := (nI (i12 + 1))) (nI_1 _) (lv2 := [(1, .int (nI (i12 + 1))), (0, .ref 54)]) (by decide) rfl (n := 77) rfl ?_
          refine p_goto (z_dec zd_X9_back 48 rfl) (t := 12) (by decide) ?_
          have eb : (g_X9_back_12 I) (i12 + 1) = (z_up (z_up (z_up (g_X9_back_12 I i12) 55 (10 + i12) ((g_X9_back_12 I i12) 71 (10 + i12))) 55 (20 + i12) ((g_X9_back_12 I i12) 71 (20 + i12))) 55 (30 + i12) ((g_X9_back_12 I i12) 71 (30 + i12))) := by show gb_X9_back_12 I i12 ((g_X9_back_12 I) i12) = _; unfold gb_X9_back_12; rfl
          refine z_lv (lv' := [(1, .int (nI (i12 + 1))), (0, .ref 54)]) rfl rfl (by rw [eb]) (ih12 (by omega))
      refine z_lv (lv' := [(1, .int (nI 0)), (0, .ref 54)]) rfl rfl rfl (hL12 0 (Nat.zero_le _))
    · refine p_bipush (z_dec zd_X9_back 3 rfl) (v := (-5)) (by decide) (n := 9) rfl ?_
      exact p_iret (z_dec zd_X9_back 4 rfl) rfl ⟨(by unfold f_X9_back; rw [if_pos h4]), rfl, (z_3 (by unfold m_X9_back; rw [if_pos h4]) rfl)⟩
  exact hentry
def f_X9_count (I : Nat → Nat → Int32) (np : Nat) (what : Int32) : Int32 := if what = 0 then (nI np) else if what = 1 then (f_X9_bitsOf (f_X9_judges I np)) else if what = 2 then (I 54 8) else if what = 3 then (I 54 5) else if what = 4 then (I 54 32) else if what = 5 then (I 54 35) else (-1)
def m_X9_count (I : Nat → Nat → Int32) (np : Nat) (what : Int32) : Nat → Nat → Int32 := if what = 0 then I else if what = 1 then (m_X9_judges I np) else if what = 2 then I else if what = 3 then I else if what = 4 then I else if what = 5 then I else I
set_option maxHeartbeats 4000000 in
set_option maxRecDepth 100000 in
theorem c_X9_count (d : Nat) (hd : 2 ≤ d) (b : Bool) (I : Nat → Nat → Int32) (L : Nat → Nat → Int64) (np : Nat) (hnp : I 54 6 = nI np) (hn10 : np ≤ 10) (what : Int32) : z_CT zm_X9_count d [.ref 54, .int what] SH (I, L, z_R b) 0 0 (z_ret (some (.int (f_X9_count I np what))) ((m_X9_count I np what), L, z_R b)) := by
  refine z_enter (by decide +kernel) (Nat.le_of_ble_eq_true rfl) ?_
  have hentry : PW zm_X9_count d 0 [(0, .ref 54), (1, .int what)] [] SH (I, L, z_R b) 0 0 (z_ret (some (.int (f_X9_count I np what))) ((m_X9_count I np what), L, z_R b)) := by
    refine p_iload_n (z_dec zd_X9_count 0 rfl) rfl 1 rfl (n := 1) rfl ?_
    by_cases hs1_0 : what = 0
    · refine p_tableIn (z_dec zd_X9_count 1 rfl) (off := 39) (t := 40) (by rw [hs1_0]; decide) (by rw [hs1_0]; decide) (by rw [hs1_0]; rfl) (by decide) ?_
      refine p_aload_n (z_dec zd_X9_count 2 rfl) rfl 0 rfl (n := 41) rfl ?_
      refine q_getI (z_dec zd_X9_count 3 rfl) zf_X9_93 (by decide) rfl (v := (nI np)) hnp (n := 44) rfl ?_
      exact p_iret (z_dec zd_X9_count 4 rfl) rfl ⟨(by unfold f_X9_count; rw [if_pos hs1_0]), rfl, (z_3 (by unfold m_X9_count; rw [if_pos hs1_0]) rfl)⟩
    by_cases hs1_1 : what = 1
    · refine p_tableIn (z_dec zd_X9_count 1 rfl) (off := 44) (t := 45) (by rw [hs1_1]; decide) (by rw [hs1_1]; decide) (by rw [hs1_1]; rfl) (by decide) ?_
      refine p_aload_n (z_dec zd_X9_count 5 rfl) rfl 0 rfl (n := 46) rfl ?_
      refine q_callV (As := []) (rest := []) (z_dec zd_X9_count 6 rfl) zk_X9_337 zv_X9_judges (c_X9_judges (d - 1) (by omega) b I L np hnp hn10) rfl ⟨_, _, rfl⟩ rfl rfl (Nat.le_of_ble_eq_true rfl) (by omega) (n := 49) rfl ?_
      show PW zm_X9_count d 49 [(0, .ref 54), (1, .int what)] [.int (f_X9_judges I np)] SH ((m_X9_judges I np), L, z_R b) 0 0 _
      refine q_callS (As := [.int (f_X9_judges I np)]) (rest := []) (z_dec zd_X9_count 7 rfl) zk_X9_197 zs_X9_bitsOf (c_X9_bitsOf (d - 1) (by omega) b (m_X9_judges I np) L (f_X9_judges I np)) rfl rfl (Nat.le_of_ble_eq_true rfl) (by omega) (n := 52) rfl ?_
      show PW zm_X9_count d 52 [(0, .ref 54), (1, .int what)] [.int (f_X9_bitsOf (f_X9_judges I np))] SH ((m_X9_judges I np), L, z_R b) 0 0 _
      exact p_iret (z_dec zd_X9_count 8 rfl) rfl ⟨(by unfold f_X9_count; rw [if_neg hs1_0, if_pos hs1_1]), rfl, (z_3 (by unfold m_X9_count; rw [if_neg hs1_0, if_pos hs1_1]) rfl)⟩
    by_cases hs1_2 : what = 2
    · refine p_tableIn (z_dec zd_X9_count 1 rfl) (off := 52) (t := 53) (by rw [hs1_2]; decide) (by rw [hs1_2]; decide) (by rw [hs1_2]; rfl) (by decide) ?_
      refine p_aload_n (z_dec zd_X9_count 9 rfl) rfl 0 rfl (n := 54) rfl ?_
      refine q_getI (z_dec zd_X9_count 10 rfl) zf_X9_141 (by decide) rfl (v := (I 54 8)) rfl (n := 57) rfl ?_
      exact p_iret (z_dec zd_X9_count 11 rfl) rfl ⟨(by unfold f_X9_count; rw [if_neg hs1_0, if_neg hs1_1, if_pos hs1_2]), rfl, (z_3 (by unfold m_X9_count; rw [if_neg hs1_0, if_neg hs1_1, if_pos hs1_2]) rfl)⟩
    by_cases hs1_3 : what = 3
    · refine p_tableIn (z_dec zd_X9_count 1 rfl) (off := 57) (t := 58) (by rw [hs1_3]; decide) (by rw [hs1_3]; decide) (by rw [hs1_3]; rfl) (by decide) ?_
      refine p_aload_n (z_dec zd_X9_count 12 rfl) rfl 0 rfl (n := 59) rfl ?_
      refine q_getI (z_dec zd_X9_count 13 rfl) zf_X9_87 (by decide) rfl (v := (I 54 5)) rfl (n := 62) rfl ?_
      exact p_iret (z_dec zd_X9_count 14 rfl) rfl ⟨(by unfold f_X9_count; rw [if_neg hs1_0, if_neg hs1_1, if_neg hs1_2, if_pos hs1_3]), rfl, (z_3 (by unfold m_X9_count; rw [if_neg hs1_0, if_neg hs1_1, if_neg hs1_2, if_pos hs1_3]) rfl)⟩
    by_cases hs1_4 : what = 4
    · refine p_tableIn (z_dec zd_X9_count 1 rfl) (off := 62) (t := 63) (by rw [hs1_4]; decide) (by rw [hs1_4]; decide) (by rw [hs1_4]; rfl) (by decide) ?_
      refine p_aload_n (z_dec zd_X9_count 15 rfl) rfl 0 rfl (n := 64) rfl ?_
      refine q_getI (z_dec zd_X9_count 16 rfl) zf_X9_292 (by decide) rfl (v := (I 54 32)) rfl (n := 67) rfl ?_
      exact p_iret (z_dec zd_X9_count 17 rfl) rfl ⟨(by unfold f_X9_count; rw [if_neg hs1_0, if_neg hs1_1, if_neg hs1_2, if_neg hs1_3, if_pos hs1_4]), rfl, (z_3 (by unfold m_X9_count; rw [if_neg hs1_0, if_neg hs1_1, if_neg hs1_2, if_neg hs1_3, if_pos hs1_4]) rfl)⟩
    by_cases hs1_5 : what = 5
    · refine p_tableIn (z_dec zd_X9_count 1 rfl) (off := 67) (t := 68) (by rw [hs1_5]; decide) (by rw [hs1_5]; decide) (by rw [hs1_5]; rfl) (by decide) ?_
      refine p_aload_n (z_dec zd_X9_count 18 rfl) rfl 0 rfl (n := 69) rfl ?_
      refine q_getI (z_dec zd_X9_count 19 rfl) zf_X9_297 (by decide) rfl (v := (I 54 35)) rfl (n := 72) rfl ?_
      exact p_iret (z_dec zd_X9_count 20 rfl) rfl ⟨(by unfold f_X9_count; rw [if_neg hs1_0, if_neg hs1_1, if_neg hs1_2, if_neg hs1_3, if_neg hs1_4, if_pos hs1_5]), rfl, (z_3 (by unfold m_X9_count; rw [if_neg hs1_0, if_neg hs1_1, if_neg hs1_2, if_neg hs1_3, if_neg hs1_4, if_pos hs1_5]) rfl)⟩
    have hs1_0n : ¬ what.toInt = 0 := lv_neT hs1_0 rfl
    have hs1_1n : ¬ what.toInt = 1 := lv_neT hs1_1 rfl
    have hs1_2n : ¬ what.toInt = 2 := lv_neT hs1_2 rfl
    have hs1_3n : ¬ what.toInt = 3 := lv_neT hs1_3 rfl
    have hs1_4n : ¬ what.toInt = 4 := lv_neT hs1_4 rfl
    have hs1_5n : ¬ what.toInt = 5 := lv_neT hs1_5 rfl
    refine p_tableOut (z_dec zd_X9_count 1 rfl) (t := 73) (by omega) (by decide) ?_
    refine p_iconst (z_dec zd_X9_count 21 rfl) (v := (-1)) (by decide) (n := 74) rfl ?_
    exact p_iret (z_dec zd_X9_count 22 rfl) rfl ⟨(by unfold f_X9_count; rw [if_neg hs1_0, if_neg hs1_1, if_neg hs1_2, if_neg hs1_3, if_neg hs1_4, if_neg hs1_5]), rfl, (z_3 (by unfold m_X9_count; rw [if_neg hs1_0, if_neg hs1_1, if_neg hs1_2, if_neg hs1_3, if_neg hs1_4, if_neg hs1_5]) rfl)⟩
  exact hentry
