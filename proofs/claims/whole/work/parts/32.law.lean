def z_cd (b : Bool) : Nat := if b = true then 16 else 15
def z_df (b : Bool) : Nat := if b = true then 15 else 16
theorem z_cdS (b : Bool) : SH[z_cd b]? = some (0, 121) := by cases b <;> rfl
theorem z_dfS (b : Bool) : SH[z_df b]? = some (0, 121) := by cases b <;> rfl
def f_X1_append (I : Nat → Nat → Int32) (ln : Nat) (letter : Int32) : Int32 := if (nI ln) < 120 then 1 else 0
def m_X1_append (I : Nat → Nat → Int32) (ln : Nat) (letter : Int32) : Nat → Nat → Int32 := if (nI ln) < 120 then (z_up (z_up I 13 1 ((nI ln) + 1)) 14 ln letter) else I
set_option maxHeartbeats 4000000 in
set_option maxRecDepth 100000 in
theorem c_X1_append (d : Nat) (hd : 0 ≤ d) (b : Bool) (I : Nat → Nat → Int32) (L : Nat → Nat → Int64) (ln : Nat) (hln : I 13 1 = nI ln) (hl120 : ln ≤ 120) (letter : Int32) : z_CT zm_X1_append d [.ref 13, .int letter] SH (I, L, z_R b) 0 0 (z_ret (some (.int (f_X1_append I ln letter))) ((m_X1_append I ln letter), L, z_R b)) := by
  refine z_enter (by decide +kernel) (Nat.le_of_ble_eq_true rfl) ?_
  have hentry : PW zm_X1_append d 0 [(0, .ref 13), (1, .int letter)] [] SH (I, L, z_R b) 0 0 (z_ret (some (.int (f_X1_append I ln letter))) ((m_X1_append I ln letter), L, z_R b)) := by
    refine p_aload_n (z_dec zd_X1_append 0 rfl) rfl 0 rfl (n := 1) rfl ?_
    refine q_getI (z_dec zd_X1_append 1 rfl) zf_X1_15 (by decide) rfl (v := (nI ln)) hln (n := 4) rfl ?_
    refine p_bipush (z_dec zd_X1_append 2 rfl) (v := 120) (by decide) (n := 6) rfl ?_
    refine p_icmp_lt (z_dec zd_X1_append 3 rfl) (t := 11) (by decide) (n := 9) rfl (fun h6 => ?_) (fun h6 => ?_)
    · have hll : ln < 120 := z_lt (b := 120) h6
      refine p_aload_n (z_dec zd_X1_append 6 rfl) rfl 0 rfl (n := 12) rfl ?_
      refine q_getR (z_dec zd_X1_append 7 rfl) zf_X1_9 (i := 14) rfl rfl (n := 15) rfl ?_
      refine p_aload_n (z_dec zd_X1_append 8 rfl) rfl 0 rfl (n := 16) rfl ?_
      refine p_dup (z_dec zd_X1_append 9 rfl) rfl (n := 17) rfl ?_
      refine q_getI (z_dec zd_X1_append 10 rfl) zf_X1_15 (by decide) rfl (v := (nI ln)) hln (n := 20) rfl ?_
      refine p_dup_x1 (z_dec zd_X1_append 11 rfl) rfl rfl (n := 21) rfl ?_
      refine p_iconst (z_dec zd_X1_append 12 rfl) (v := 1) (by decide) (n := 22) rfl ?_
      refine p_iadd (z_dec zd_X1_append 13 rfl) (n := 23) rfl ?_
      refine q_putI (z_dec zd_X1_append 14 rfl) zp_X1_15 (fun q => by cases q) rfl (n := 26) rfl ?_
      refine p_iload_n (z_dec zd_X1_append 15 rfl) rfl 1 rfl (n := 27) rfl ?_
      refine q_iast (z_dec zd_X1_append 16 rfl) rfl (by decide) (ln) rfl (by omega) (n := 28) rfl ?_
      refine p_iconst (z_dec zd_X1_append 17 rfl) (v := 1) (by decide) (n := 29) rfl ?_
      exact p_zret (z_dec zd_X1_append 18 rfl) rfl (Or.inr rfl) ⟨(by unfold f_X1_append; rw [if_pos h6]), rfl, (z_3 (by unfold m_X1_append; rw [if_pos h6]) rfl)⟩
    · refine p_iconst (z_dec zd_X1_append 4 rfl) (v := 0) (by decide) (n := 10) rfl ?_
      exact p_zret (z_dec zd_X1_append 5 rfl) rfl (Or.inl rfl) ⟨(by unfold f_X1_append; rw [if_neg h6]), rfl, (z_3 (by unfold m_X1_append; rw [if_neg h6]) rfl)⟩
  exact hentry
theorem fb_X1_append (I : Nat → Nat → Int32) (ln : Nat) (letter : Int32) : f_X1_append I ln letter = 0 ∨ f_X1_append I ln letter = 1 := by
  unfold f_X1_append
  (repeat' split) <;> first | exact Or.inl rfl | exact Or.inr rfl
def f_X1_next (I : Nat → Nat → Int32) (ln : Nat) (at0 : Nat) : Int32 := if (nI ln) ≤ (nI at0) then (-1) else (I 14 at0)
set_option maxHeartbeats 4000000 in
set_option maxRecDepth 100000 in
theorem c_X1_next (d : Nat) (hd : 0 ≤ d) (b : Bool) (I : Nat → Nat → Int32) (L : Nat → Nat → Int64) (ln : Nat) (hln : I 13 1 = nI ln) (hl120 : ln ≤ 120) (at0 : Nat) (hat : I 13 2 = nI at0) (hat120 : at0 ≤ 120) : z_CT zm_X1_next d [.ref 13] SH (I, L, z_R b) 0 0 (z_ret (some (.int (f_X1_next I ln at0))) (I, L, z_R b)) := by
  refine z_enter (by decide +kernel) (Nat.le_of_ble_eq_true rfl) ?_
  have hentry : PW zm_X1_next d 0 [(0, .ref 13)] [] SH (I, L, z_R b) 0 0 (z_ret (some (.int (f_X1_next I ln at0))) (I, L, z_R b)) := by
    refine p_aload_n (z_dec zd_X1_next 0 rfl) rfl 0 rfl (n := 1) rfl ?_
    refine q_getI (z_dec zd_X1_next 1 rfl) zf_X1_19 (by decide) rfl (v := (nI at0)) hat (n := 4) rfl ?_
    refine p_aload_n (z_dec zd_X1_next 2 rfl) rfl 0 rfl (n := 5) rfl ?_
    refine q_getI (z_dec zd_X1_next 3 rfl) zf_X1_15 (by decide) rfl (v := (nI ln)) hln (n := 8) rfl ?_
    refine p_icmp_ge (z_dec zd_X1_next 4 rfl) (t := 23) (by decide) (n := 11) rfl (fun h8 => ?_) (fun h8 => ?_)
    · refine p_iconst (z_dec zd_X1_next 11 rfl) (v := (-1)) (by decide) (n := 24) rfl ?_
      exact p_iret (z_dec zd_X1_next 12 rfl) rfl ⟨(by unfold f_X1_next; rw [if_pos h8]), rfl, rfl⟩
    · have hal : at0 < ln := z_nge (a := ln) h8
      refine p_aload_n (z_dec zd_X1_next 5 rfl) rfl 0 rfl (n := 12) rfl ?_
      refine q_getR (z_dec zd_X1_next 6 rfl) zf_X1_9 (i := 14) rfl rfl (n := 15) rfl ?_
      refine p_aload_n (z_dec zd_X1_next 7 rfl) rfl 0 rfl (n := 16) rfl ?_
      refine q_getI (z_dec zd_X1_next 8 rfl) zf_X1_19 (by decide) rfl (v := (nI at0)) hat (n := 19) rfl ?_
      refine q_iald (z_dec zd_X1_next 9 rfl) rfl (by decide) (at0) rfl (by omega) (v := (I 14 at0)) rfl (n := 20) rfl ?_
      refine p_goto (z_dec zd_X1_next 10 rfl) (t := 24) (by decide) ?_
      exact p_iret (z_dec zd_X1_next 12 rfl) rfl ⟨(by unfold f_X1_next; rw [if_neg h8]), rfl, rfl⟩
  exact hentry
def m_X1_write (b : Bool) (I : Nat → Nat → Int32) (dr : Nat) (entry : Int32) : Nat → Nat → Int32 := if 121 ≤ (nI dr) then I else (z_up (z_up I 13 6 ((nI dr) + 1)) (z_df b) dr entry)
set_option maxHeartbeats 4000000 in
set_option maxRecDepth 100000 in
theorem c_X1_write (d : Nat) (hd : 0 ≤ d) (b : Bool) (I : Nat → Nat → Int32) (L : Nat → Nat → Int64) (dr : Nat) (hdr : I 13 6 = nI dr) (hdr121 : dr ≤ 121) (entry : Int32) : z_CT zm_X1_write d [.ref 13, .int entry] SH (I, L, z_R b) 0 0 (z_ret (none) ((m_X1_write b I dr entry), L, z_R b)) := by
  refine z_enter (by decide +kernel) (Nat.le_of_ble_eq_true rfl) ?_
  have hentry : PW zm_X1_write d 0 [(0, .ref 13), (1, .int entry)] [] SH (I, L, z_R b) 0 0 (z_ret (none) ((m_X1_write b I dr entry), L, z_R b)) := by
    refine p_aload_n (z_dec zd_X1_write 0 rfl) rfl 0 rfl (n := 1) rfl ?_
    refine q_getI (z_dec zd_X1_write 1 rfl) zf_X1_31 (by decide) rfl (v := (nI dr)) hdr (n := 4) rfl ?_
    refine p_aload_n (z_dec zd_X1_write 2 rfl) rfl 0 rfl (n := 5) rfl ?_
    refine q_getR (z_dec zd_X1_write 3 rfl) zf_X1_28 (i := (z_df b)) rfl rfl (n := 8) rfl ?_
    refine p_alen (t := 0) (by decide) (z_dec zd_X1_write 4 rfl) (z_dfS b) (v := 121) rfl (n := 9) rfl ?_
    refine p_icmp_ge (z_dec zd_X1_write 5 rfl) (t := 29) (by decide) (n := 12) rfl (fun h9 => ?_) (fun h9 => ?_)
    · exact p_vret (z_dec zd_X1_write 17 rfl) rfl ⟨rfl, rfl, (z_3 (by unfold m_X1_write; rw [if_pos h9]) rfl)⟩
    · have hdl : dr < 121 := z_nge (a := 121) h9
      refine p_aload_n (z_dec zd_X1_write 6 rfl) rfl 0 rfl (n := 13) rfl ?_
      refine q_getR (z_dec zd_X1_write 7 rfl) zf_X1_28 (i := (z_df b)) rfl rfl (n := 16) rfl ?_
      refine p_aload_n (z_dec zd_X1_write 8 rfl) rfl 0 rfl (n := 17) rfl ?_
      refine p_dup (z_dec zd_X1_write 9 rfl) rfl (n := 18) rfl ?_
      refine q_getI (z_dec zd_X1_write 10 rfl) zf_X1_31 (by decide) rfl (v := (nI dr)) hdr (n := 21) rfl ?_
      refine p_dup_x1 (z_dec zd_X1_write 11 rfl) rfl rfl (n := 22) rfl ?_
      refine p_iconst (z_dec zd_X1_write 12 rfl) (v := 1) (by decide) (n := 23) rfl ?_
      refine p_iadd (z_dec zd_X1_write 13 rfl) (n := 24) rfl ?_
      refine q_putI (z_dec zd_X1_write 14 rfl) zp_X1_31 (fun q => by cases q) rfl (n := 27) rfl ?_
      refine p_iload_n (z_dec zd_X1_write 15 rfl) rfl 1 rfl (n := 28) rfl ?_
      refine q_iast (z_dec zd_X1_write 16 rfl) (z_dfS b) (by decide) (dr) rfl (by omega) (n := 29) rfl ?_
      exact p_vret (z_dec zd_X1_write 17 rfl) rfl ⟨rfl, rfl, (z_3 (by unfold m_X1_write; rw [if_neg h9]) rfl)⟩
  exact hentry
def f_X1_levelOf (sign : Int32) : Int32 := if sign = 37 then 4 else if sign = 38 then 1 else if sign = 42 then 4 else if sign = 43 then 3 else if sign = 45 then 3 else if sign = 47 then 4 else if sign = 60 then 2 else if sign = 61 then 2 else if sign = 62 then 2 else if sign = 124 then 0 else (-1)
set_option maxHeartbeats 4000000 in
set_option maxRecDepth 100000 in
theorem c_X1_levelOf (d : Nat) (hd : 0 ≤ d) (b : Bool) (I : Nat → Nat → Int32) (L : Nat → Nat → Int64) (sign : Int32) : z_CT zm_X1_levelOf d [.int sign] SH (I, L, z_R b) 0 0 (z_ret (some (.int (f_X1_levelOf sign))) (I, L, z_R b)) := by
  refine z_enter (by decide +kernel) (Nat.le_of_ble_eq_true rfl) ?_
  have hentry : PW zm_X1_levelOf d 0 [(0, .int sign)] [] SH (I, L, z_R b) 0 0 (z_ret (some (.int (f_X1_levelOf sign))) (I, L, z_R b)) := by
    refine p_iload_n (z_dec zd_X1_levelOf 0 rfl) rfl 0 rfl (n := 1) rfl ?_
    by_cases hs1_37 : sign = 37
    · refine p_lookup (z_dec zd_X1_levelOf 1 rfl) (off := 99) (t := 100) (by decide) (by rw [hs1_37]; rfl) (by decide) ?_
      refine p_iconst (z_dec zd_X1_levelOf 10 rfl) (v := 4) (by decide) (n := 101) rfl ?_
      exact p_iret (z_dec zd_X1_levelOf 11 rfl) rfl ⟨(by unfold f_X1_levelOf; rw [if_pos hs1_37]), rfl, rfl⟩
    by_cases hs1_38 : sign = 38
    · refine p_lookup (z_dec zd_X1_levelOf 1 rfl) (off := 93) (t := 94) (by decide) (by rw [hs1_38]; rfl) (by decide) ?_
      refine p_iconst (z_dec zd_X1_levelOf 4 rfl) (v := 1) (by decide) (n := 95) rfl ?_
      exact p_iret (z_dec zd_X1_levelOf 5 rfl) rfl ⟨(by unfold f_X1_levelOf; rw [if_neg hs1_37, if_pos hs1_38]), rfl, rfl⟩
    by_cases hs1_42 : sign = 42
    · refine p_lookup (z_dec zd_X1_levelOf 1 rfl) (off := 99) (t := 100) (by decide) (by rw [hs1_42]; rfl) (by decide) ?_
      refine p_iconst (z_dec zd_X1_levelOf 10 rfl) (v := 4) (by decide) (n := 101) rfl ?_
      exact p_iret (z_dec zd_X1_levelOf 11 rfl) rfl ⟨(by unfold f_X1_levelOf; rw [if_neg hs1_37, if_neg hs1_38, if_pos hs1_42]), rfl, rfl⟩
    by_cases hs1_43 : sign = 43
    · refine p_lookup (z_dec zd_X1_levelOf 1 rfl) (off := 97) (t := 98) (by decide) (by rw [hs1_43]; rfl) (by decide) ?_
      refine p_iconst (z_dec zd_X1_levelOf 8 rfl) (v := 3) (by decide) (n := 99) rfl ?_
      exact p_iret (z_dec zd_X1_levelOf 9 rfl) rfl ⟨(by unfold f_X1_levelOf; rw [if_neg hs1_37, if_neg hs1_38, if_neg hs1_42, if_pos hs1_43]), rfl, rfl⟩
    by_cases hs1_45 : sign = 45
    · refine p_lookup (z_dec zd_X1_levelOf 1 rfl) (off := 97) (t := 98) (by decide) (by rw [hs1_45]; rfl) (by decide) ?_
      refine p_iconst (z_dec zd_X1_levelOf 8 rfl) (v := 3) (by decide) (n := 99) rfl ?_
      exact p_iret (z_dec zd_X1_levelOf 9 rfl) rfl ⟨(by unfold f_X1_levelOf; rw [if_neg hs1_37, if_neg hs1_38, if_neg hs1_42, if_neg hs1_43, if_pos hs1_45]), rfl, rfl⟩
    by_cases hs1_47 : sign = 47
    · refine p_lookup (z_dec zd_X1_levelOf 1 rfl) (off := 99) (t := 100) (by decide) (by rw [hs1_47]; rfl) (by decide) ?_
      refine p_iconst (z_dec zd_X1_levelOf 10 rfl) (v := 4) (by decide) (n := 101) rfl ?_
      exact p_iret (z_dec zd_X1_levelOf 11 rfl) rfl ⟨(by unfold f_X1_levelOf; rw [if_neg hs1_37, if_neg hs1_38, if_neg hs1_42, if_neg hs1_43, if_neg hs1_45, if_pos hs1_47]), rfl, rfl⟩
    by_cases hs1_60 : sign = 60
    · refine p_lookup (z_dec zd_X1_levelOf 1 rfl) (off := 95) (t := 96) (by decide) (by rw [hs1_60]; rfl) (by decide) ?_
      refine p_iconst (z_dec zd_X1_levelOf 6 rfl) (v := 2) (by decide) (n := 97) rfl ?_
      exact p_iret (z_dec zd_X1_levelOf 7 rfl) rfl ⟨(by unfold f_X1_levelOf; rw [if_neg hs1_37, if_neg hs1_38, if_neg hs1_42, if_neg hs1_43, if_neg hs1_45, if_neg hs1_47, if_pos hs1_60]), rfl, rfl⟩
    by_cases hs1_61 : sign = 61
    · refine p_lookup (z_dec zd_X1_levelOf 1 rfl) (off := 95) (t := 96) (by decide) (by rw [hs1_61]; rfl) (by decide) ?_
      refine p_iconst (z_dec zd_X1_levelOf 6 rfl) (v := 2) (by decide) (n := 97) rfl ?_
      exact p_iret (z_dec zd_X1_levelOf 7 rfl) rfl ⟨(by unfold f_X1_levelOf; rw [if_neg hs1_37, if_neg hs1_38, if_neg hs1_42, if_neg hs1_43, if_neg hs1_45, if_neg hs1_47, if_neg hs1_60, if_pos hs1_61]), rfl, rfl⟩
    by_cases hs1_62 : sign = 62
    · refine p_lookup (z_dec zd_X1_levelOf 1 rfl) (off := 95) (t := 96) (by decide) (by rw [hs1_62]; rfl) (by decide) ?_
      refine p_iconst (z_dec zd_X1_levelOf 6 rfl) (v := 2) (by decide) (n := 97) rfl ?_
      exact p_iret (z_dec zd_X1_levelOf 7 rfl) rfl ⟨(by unfold f_X1_levelOf; rw [if_neg hs1_37, if_neg hs1_38, if_neg hs1_42, if_neg hs1_43, if_neg hs1_45, if_neg hs1_47, if_neg hs1_60, if_neg hs1_61, if_pos hs1_62]), rfl, rfl⟩
    by_cases hs1_124 : sign = 124
    · refine p_lookup (z_dec zd_X1_levelOf 1 rfl) (off := 91) (t := 92) (by decide) (by rw [hs1_124]; rfl) (by decide) ?_
      refine p_iconst (z_dec zd_X1_levelOf 2 rfl) (v := 0) (by decide) (n := 93) rfl ?_
      exact p_iret (z_dec zd_X1_levelOf 3 rfl) rfl ⟨(by unfold f_X1_levelOf; rw [if_neg hs1_37, if_neg hs1_38, if_neg hs1_42, if_neg hs1_43, if_neg hs1_45, if_neg hs1_47, if_neg hs1_60, if_neg hs1_61, if_neg hs1_62, if_pos hs1_124]), rfl, rfl⟩
    refine p_lookup (z_dec zd_X1_levelOf 1 rfl) (off := 101) (t := 102) (by decide) ((lv_osw (a := 37) hs1_37 rfl).trans ((lv_osw (a := 38) hs1_38 rfl).trans ((lv_osw (a := 42) hs1_42 rfl).trans ((lv_osw (a := 43) hs1_43 rfl).trans ((lv_osw (a := 45) hs1_45 rfl).trans ((lv_osw (a := 47) hs1_47 rfl).trans ((lv_osw (a := 60) hs1_60 rfl).trans ((lv_osw (a := 61) hs1_61 rfl).trans ((lv_osw (a := 62) hs1_62 rfl).trans ((lv_osw (a := 124) hs1_124 rfl).trans rfl)))))))))) (by decide) ?_
    refine p_iconst (z_dec zd_X1_levelOf 12 rfl) (v := (-1)) (by decide) (n := 103) rfl ?_
    exact p_iret (z_dec zd_X1_levelOf 13 rfl) rfl ⟨(by unfold f_X1_levelOf; rw [if_neg hs1_37, if_neg hs1_38, if_neg hs1_42, if_neg hs1_43, if_neg hs1_45, if_neg hs1_47, if_neg hs1_60, if_neg hs1_61, if_neg hs1_62, if_neg hs1_124]), rfl, rfl⟩
  exact hentry
def f_X1_isDigit (sign : Int32) : Int32 := if sign < 48 then 0 else if 57 < sign then 0 else 1
set_option maxHeartbeats 4000000 in
set_option maxRecDepth 100000 in
theorem c_X1_isDigit (d : Nat) (hd : 0 ≤ d) (b : Bool) (I : Nat → Nat → Int32) (L : Nat → Nat → Int64) (sign : Int32) : z_CT zm_X1_isDigit d [.int sign] SH (I, L, z_R b) 0 0 (z_ret (some (.int (f_X1_isDigit sign))) (I, L, z_R b)) := by
  refine z_enter (by decide +kernel) (Nat.le_of_ble_eq_true rfl) ?_
  have hentry : PW zm_X1_isDigit d 0 [(0, .int sign)] [] SH (I, L, z_R b) 0 0 (z_ret (some (.int (f_X1_isDigit sign))) (I, L, z_R b)) := by
    refine p_iload_n (z_dec zd_X1_isDigit 0 rfl) rfl 0 rfl (n := 1) rfl ?_
    refine p_bipush (z_dec zd_X1_isDigit 1 rfl) (v := 48) (by decide) (n := 3) rfl ?_
    refine p_icmp_lt (z_dec zd_X1_isDigit 2 rfl) (t := 16) (by decide) (n := 6) rfl (fun h3 => ?_) (fun h3 => ?_)
    · refine p_iconst (z_dec zd_X1_isDigit 8 rfl) (v := 0) (by decide) (n := 17) rfl ?_
      exact p_zret (z_dec zd_X1_isDigit 9 rfl) rfl (Or.inl rfl) ⟨(by unfold f_X1_isDigit; rw [if_pos h3]), rfl, rfl⟩
    · refine p_iload_n (z_dec zd_X1_isDigit 3 rfl) rfl 0 rfl (n := 7) rfl ?_
      refine p_bipush (z_dec zd_X1_isDigit 4 rfl) (v := 57) (by decide) (n := 9) rfl ?_
      refine p_icmp_gt (z_dec zd_X1_isDigit 5 rfl) (t := 16) (by decide) (n := 12) rfl (fun h9 => ?_) (fun h9 => ?_)
      · refine p_iconst (z_dec zd_X1_isDigit 8 rfl) (v := 0) (by decide) (n := 17) rfl ?_
        exact p_zret (z_dec zd_X1_isDigit 9 rfl) rfl (Or.inl rfl) ⟨(by unfold f_X1_isDigit; rw [if_neg h3, if_pos h9]), rfl, rfl⟩
      · refine p_iconst (z_dec zd_X1_isDigit 6 rfl) (v := 1) (by decide) (n := 13) rfl ?_
        refine p_goto (z_dec zd_X1_isDigit 7 rfl) (t := 17) (by decide) ?_
        exact p_zret (z_dec zd_X1_isDigit 9 rfl) rfl (Or.inr rfl) ⟨(by unfold f_X1_isDigit; rw [if_neg h3, if_neg h9]), rfl, rfl⟩
  exact hentry
theorem fb_X1_isDigit (sign : Int32) : f_X1_isDigit sign = 0 ∨ f_X1_isDigit sign = 1 := by
  unfold f_X1_isDigit
  (repeat' split) <;> first | exact Or.inl rfl | exact Or.inr rfl
def f_X1_isName (sign : Int32) : Int32 := if sign = 97 then 1 else if sign = 98 then 1 else if sign = 103 then 1 else if sign = 108 then 1 else if sign = 109 then 1 else if sign = 100 then 1 else 0
set_option maxHeartbeats 4000000 in
set_option maxRecDepth 100000 in
theorem c_X1_isName (d : Nat) (hd : 0 ≤ d) (b : Bool) (I : Nat → Nat → Int32) (L : Nat → Nat → Int64) (sign : Int32) : z_CT zm_X1_isName d [.int sign] SH (I, L, z_R b) 0 0 (z_ret (some (.int (f_X1_isName sign))) (I, L, z_R b)) := by
  refine z_enter (by decide +kernel) (Nat.le_of_ble_eq_true rfl) ?_
  have hentry : PW zm_X1_isName d 0 [(0, .int sign)] [] SH (I, L, z_R b) 0 0 (z_ret (some (.int (f_X1_isName sign))) (I, L, z_R b)) := by
    refine p_iload_n (z_dec zd_X1_isName 0 rfl) rfl 0 rfl (n := 1) rfl ?_
    refine p_bipush (z_dec zd_X1_isName 1 rfl) (v := 97) (by decide) (n := 3) rfl ?_
    refine p_icmp_eq (z_dec zd_X1_isName 2 rfl) (t := 36) (by decide) (n := 6) rfl (fun h3 => ?_) (fun h3 => ?_)
    · refine p_iconst (z_dec zd_X1_isName 18 rfl) (v := 1) (by decide) (n := 37) rfl ?_
      refine p_goto (z_dec zd_X1_isName 19 rfl) (t := 41) (by decide) ?_
      exact p_zret (z_dec zd_X1_isName 21 rfl) rfl (Or.inr rfl) ⟨(by unfold f_X1_isName; rw [if_pos h3]), rfl, rfl⟩
    · refine p_iload_n (z_dec zd_X1_isName 3 rfl) rfl 0 rfl (n := 7) rfl ?_
      refine p_bipush (z_dec zd_X1_isName 4 rfl) (v := 98) (by decide) (n := 9) rfl ?_
      refine p_icmp_eq (z_dec zd_X1_isName 5 rfl) (t := 36) (by decide) (n := 12) rfl (fun h9 => ?_) (fun h9 => ?_)
      · refine p_iconst (z_dec zd_X1_isName 18 rfl) (v := 1) (by decide) (n := 37) rfl ?_
        refine p_goto (z_dec zd_X1_isName 19 rfl) (t := 41) (by decide) ?_
        exact p_zret (z_dec zd_X1_isName 21 rfl) rfl (Or.inr rfl) ⟨(by unfold f_X1_isName; rw [if_neg h3, if_pos h9]), rfl, rfl⟩
      · refine p_iload_n (z_dec zd_X1_isName 6 rfl) rfl 0 rfl (n := 13) rfl ?_
        refine p_bipush (z_dec zd_X1_isName 7 rfl) (v := 103) (by decide) (n := 15) rfl ?_
        refine p_icmp_eq (z_dec zd_X1_isName 8 rfl) (t := 36) (by decide) (n := 18) rfl (fun h15 => ?_) (fun h15 => ?_)
        · refine p_iconst (z_dec zd_X1_isName 18 rfl) (v := 1) (by decide) (n := 37) rfl ?_
          refine p_goto (z_dec zd_X1_isName 19 rfl) (t := 41) (by decide) ?_
          exact p_zret (z_dec zd_X1_isName 21 rfl) rfl (Or.inr rfl) ⟨(by unfold f_X1_isName; rw [if_neg h3, if_neg h9, if_pos h15]), rfl, rfl⟩
        · refine p_iload_n (z_dec zd_X1_isName 9 rfl) rfl 0 rfl (n := 19) rfl ?_
          refine p_bipush (z_dec zd_X1_isName 10 rfl) (v := 108) (by decide) (n := 21) rfl ?_
          refine p_icmp_eq (z_dec zd_X1_isName 11 rfl) (t := 36) (by decide) (n := 24) rfl (fun h21 => ?_) (fun h21 => ?_)
          · refine p_iconst (z_dec zd_X1_isName 18 rfl) (v := 1) (by decide) (n := 37) rfl ?_
            refine p_goto (z_dec zd_X1_isName 19 rfl) (t := 41) (by decide) ?_
            exact p_zret (z_dec zd_X1_isName 21 rfl) rfl (Or.inr rfl) ⟨(by unfold f_X1_isName; rw [if_neg h3, if_neg h9, if_neg h15, if_pos h21]), rfl, rfl⟩
          · refine p_iload_n (z_dec zd_X1_isName 12 rfl) rfl 0 rfl (n := 25) rfl ?_
            refine p_bipush (z_dec zd_X1_isName 13 rfl) (v := 109) (by decide) (n := 27) rfl ?_
            refine p_icmp_eq (z_dec zd_X1_isName 14 rfl) (t := 36) (by decide) (n := 30) rfl (fun h27 => ?_) (fun h27 => ?_)
            · refine p_iconst (z_dec zd_X1_isName 18 rfl) (v := 1) (by decide) (n := 37) rfl ?_
              refine p_goto (z_dec zd_X1_isName 19 rfl) (t := 41) (by decide) ?_
              exact p_zret (z_dec zd_X1_isName 21 rfl) rfl (Or.inr rfl) ⟨(by unfold f_X1_isName; rw [if_neg h3, if_neg h9, if_neg h15, if_neg h21, if_pos h27]), rfl, rfl⟩
            · refine p_iload_n (z_dec zd_X1_isName 15 rfl) rfl 0 rfl (n := 31) rfl ?_
              refine p_bipush (z_dec zd_X1_isName 16 rfl) (v := 100) (by decide) (n := 33) rfl ?_
              refine p_icmp_ne (z_dec zd_X1_isName 17 rfl) (t := 40) (by decide) (n := 36) rfl (fun h33 => ?_) (fun h33 => ?_)
              · refine p_iconst (z_dec zd_X1_isName 20 rfl) (v := 0) (by decide) (n := 41) rfl ?_
                exact p_zret (z_dec zd_X1_isName 21 rfl) rfl (Or.inl rfl) ⟨(by unfold f_X1_isName; rw [if_neg h3, if_neg h9, if_neg h15, if_neg h21, if_neg h27, if_neg h33]), rfl, rfl⟩
              · refine p_iconst (z_dec zd_X1_isName 18 rfl) (v := 1) (by decide) (n := 37) rfl ?_
                refine p_goto (z_dec zd_X1_isName 19 rfl) (t := 41) (by decide) ?_
                exact p_zret (z_dec zd_X1_isName 21 rfl) rfl (Or.inr rfl) ⟨(by unfold f_X1_isName; rw [if_neg h3, if_neg h9, if_neg h15, if_neg h21, if_neg h27, if_pos h33]), rfl, rfl⟩
  exact hentry
theorem fb_X1_isName (sign : Int32) : f_X1_isName sign = 0 ∨ f_X1_isName sign = 1 := by
  unfold f_X1_isName
  (repeat' split) <;> first | exact Or.inl rfl | exact Or.inr rfl
def f_X1_joined (sign : Int32) (left : Int32) (right : Int32) : Int32 := if sign = 38 then if left = 0 then 0 else if right = 0 then 0 else 1 else if sign = 42 then (left * right) else if sign = 43 then (left + right) else if sign = 45 then (left - right) else if sign = 47 then if right = 0 then 0 else (left / right) else if sign = 60 then if right ≤ left then 0 else 1 else if sign = 61 then if left = right then 1 else 0 else if sign = 62 then if left ≤ right then 0 else 1 else if sign = 124 then if left = 0 then if right = 0 then 0 else 1 else 1 else if right = 0 then 0 else (left - left / right * right)
set_option maxHeartbeats 4000000 in
set_option maxRecDepth 100000 in
theorem c_X1_joined (d : Nat) (hd : 0 ≤ d) (b : Bool) (I : Nat → Nat → Int32) (L : Nat → Nat → Int64) (sign : Int32) (left : Int32) (right : Int32) : z_CT zm_X1_joined d [.int sign, .int left, .int right] SH (I, L, z_R b) 0 0 (z_ret (some (.int (f_X1_joined sign left right))) (I, L, z_R b)) := by
  refine z_enter (by decide +kernel) (Nat.le_of_ble_eq_true rfl) ?_
  have hentry : PW zm_X1_joined d 0 [(0, .int sign), (1, .int left), (2, .int right)] [] SH (I, L, z_R b) 0 0 (z_ret (some (.int (f_X1_joined sign left right))) (I, L, z_R b)) := by
    refine p_iload_n (z_dec zd_X1_joined 0 rfl) rfl 0 rfl (n := 1) rfl ?_
    by_cases hs1_38 : sign = 38
    · refine p_lookup (z_dec zd_X1_joined 1 rfl) (off := 97) (t := 98) (by decide) (by rw [hs1_38]; rfl) (by decide) ?_
      refine p_iload_n (z_dec zd_X1_joined 10 rfl) rfl 1 rfl (n := 99) rfl ?_
      refine p_if_eq (z_dec zd_X1_joined 11 rfl) (t := 110) (by decide) (n := 102) rfl (fun h99 => ?_) (fun h99 => ?_)
      · refine p_iconst (z_dec zd_X1_joined 16 rfl) (v := 0) (by decide) (n := 111) rfl ?_
        exact p_iret (z_dec zd_X1_joined 17 rfl) rfl ⟨(by unfold f_X1_joined; rw [if_pos hs1_38, if_pos h99]), rfl, rfl⟩
      · refine p_iload_n (z_dec zd_X1_joined 12 rfl) rfl 2 rfl (n := 103) rfl ?_
        refine p_if_eq (z_dec zd_X1_joined 13 rfl) (t := 110) (by decide) (n := 106) rfl (fun h103 => ?_) (fun h103 => ?_)
        · refine p_iconst (z_dec zd_X1_joined 16 rfl) (v := 0) (by decide) (n := 111) rfl ?_
          exact p_iret (z_dec zd_X1_joined 17 rfl) rfl ⟨(by unfold f_X1_joined; rw [if_pos hs1_38, if_neg h99, if_pos h103]), rfl, rfl⟩
        · refine p_iconst (z_dec zd_X1_joined 14 rfl) (v := 1) (by decide) (n := 107) rfl ?_
          refine p_goto (z_dec zd_X1_joined 15 rfl) (t := 111) (by decide) ?_
          exact p_iret (z_dec zd_X1_joined 17 rfl) rfl ⟨(by unfold f_X1_joined; rw [if_pos hs1_38, if_neg h99, if_neg h103]), rfl, rfl⟩
    by_cases hs1_42 : sign = 42
    · refine p_lookup (z_dec zd_X1_joined 1 rfl) (off := 152) (t := 153) (by decide) (by rw [hs1_42]; rfl) (by decide) ?_
      refine p_iload_n (z_dec zd_X1_joined 47 rfl) rfl 1 rfl (n := 154) rfl ?_
      refine p_iload_n (z_dec zd_X1_joined 48 rfl) rfl 2 rfl (n := 155) rfl ?_
      refine p_imul (z_dec zd_X1_joined 49 rfl) (n := 156) rfl ?_
      exact p_iret (z_dec zd_X1_joined 50 rfl) rfl ⟨(by unfold f_X1_joined; rw [if_neg hs1_38, if_pos hs1_42]), rfl, rfl⟩
    by_cases hs1_43 : sign = 43
    · refine p_lookup (z_dec zd_X1_joined 1 rfl) (off := 144) (t := 145) (by decide) (by rw [hs1_43]; rfl) (by decide) ?_
      refine p_iload_n (z_dec zd_X1_joined 39 rfl) rfl 1 rfl (n := 146) rfl ?_
      refine p_iload_n (z_dec zd_X1_joined 40 rfl) rfl 2 rfl (n := 147) rfl ?_
      refine p_iadd (z_dec zd_X1_joined 41 rfl) (n := 148) rfl ?_
      exact p_iret (z_dec zd_X1_joined 42 rfl) rfl ⟨(by unfold f_X1_joined; rw [if_neg hs1_38, if_neg hs1_42, if_pos hs1_43]), rfl, rfl⟩
    by_cases hs1_45 : sign = 45
    · refine p_lookup (z_dec zd_X1_joined 1 rfl) (off := 148) (t := 149) (by decide) (by rw [hs1_45]; rfl) (by decide) ?_
      refine p_iload_n (z_dec zd_X1_joined 43 rfl) rfl 1 rfl (n := 150) rfl ?_
      refine p_iload_n (z_dec zd_X1_joined 44 rfl) rfl 2 rfl (n := 151) rfl ?_
      refine p_isub (z_dec zd_X1_joined 45 rfl) (n := 152) rfl ?_
      exact p_iret (z_dec zd_X1_joined 46 rfl) rfl ⟨(by unfold f_X1_joined; rw [if_neg hs1_38, if_neg hs1_42, if_neg hs1_43, if_pos hs1_45]), rfl, rfl⟩
    by_cases hs1_47 : sign = 47
    · refine p_lookup (z_dec zd_X1_joined 1 rfl) (off := 156) (t := 157) (by decide) (by rw [hs1_47]; rfl) (by decide) ?_
      refine p_iload_n (z_dec zd_X1_joined 51 rfl) rfl 2 rfl (n := 158) rfl ?_
      refine p_if_ne (z_dec zd_X1_joined 52 rfl) (t := 165) (by decide) (n := 161) rfl (fun h158 => ?_) (fun h158 => ?_)
      · refine p_iload_n (z_dec zd_X1_joined 55 rfl) rfl 1 rfl (n := 166) rfl ?_
        refine p_iload_n (z_dec zd_X1_joined 56 rfl) rfl 2 rfl (n := 167) rfl ?_
        refine p_idiv (z_dec zd_X1_joined 57 rfl) h158 (n := 168) rfl ?_
        exact p_iret (z_dec zd_X1_joined 58 rfl) rfl ⟨(by unfold f_X1_joined; rw [if_neg hs1_38, if_neg hs1_42, if_neg hs1_43, if_neg hs1_45, if_pos hs1_47, if_neg h158]), rfl, rfl⟩
      · refine p_iconst (z_dec zd_X1_joined 53 rfl) (v := 0) (by decide) (n := 162) rfl ?_
        refine p_goto (z_dec zd_X1_joined 54 rfl) (t := 168) (by decide) ?_
        exact p_iret (z_dec zd_X1_joined 58 rfl) rfl ⟨(by unfold f_X1_joined; rw [if_neg hs1_38, if_neg hs1_42, if_neg hs1_43, if_neg hs1_45, if_pos hs1_47, if_pos h158]), rfl, rfl⟩
    by_cases hs1_60 : sign = 60
    · refine p_lookup (z_dec zd_X1_joined 1 rfl) (off := 111) (t := 112) (by decide) (by rw [hs1_60]; rfl) (by decide) ?_
      refine p_iload_n (z_dec zd_X1_joined 18 rfl) rfl 1 rfl (n := 113) rfl ?_
      refine p_iload_n (z_dec zd_X1_joined 19 rfl) rfl 2 rfl (n := 114) rfl ?_
      refine p_icmp_ge (z_dec zd_X1_joined 20 rfl) (t := 121) (by decide) (n := 117) rfl (fun h114 => ?_) (fun h114 => ?_)
      · refine p_iconst (z_dec zd_X1_joined 23 rfl) (v := 0) (by decide) (n := 122) rfl ?_
        exact p_iret (z_dec zd_X1_joined 24 rfl) rfl ⟨(by unfold f_X1_joined; rw [if_neg hs1_38, if_neg hs1_42, if_neg hs1_43, if_neg hs1_45, if_neg hs1_47, if_pos hs1_60, if_pos h114]), rfl, rfl⟩
      · refine p_iconst (z_dec zd_X1_joined 21 rfl) (v := 1) (by decide) (n := 118) rfl ?_
        refine p_goto (z_dec zd_X1_joined 22 rfl) (t := 122) (by decide) ?_
        exact p_iret (z_dec zd_X1_joined 24 rfl) rfl ⟨(by unfold f_X1_joined; rw [if_neg hs1_38, if_neg hs1_42, if_neg hs1_43, if_neg hs1_45, if_neg hs1_47, if_pos hs1_60, if_neg h114]), rfl, rfl⟩
    by_cases hs1_61 : sign = 61
    · refine p_lookup (z_dec zd_X1_joined 1 rfl) (off := 122) (t := 123) (by decide) (by rw [hs1_61]; rfl) (by decide) ?_
      refine p_iload_n (z_dec zd_X1_joined 25 rfl) rfl 1 rfl (n := 124) rfl ?_
      refine p_iload_n (z_dec zd_X1_joined 26 rfl) rfl 2 rfl (n := 125) rfl ?_
      refine p_icmp_ne (z_dec zd_X1_joined 27 rfl) (t := 132) (by decide) (n := 128) rfl (fun h125 => ?_) (fun h125 => ?_)
      · refine p_iconst (z_dec zd_X1_joined 30 rfl) (v := 0) (by decide) (n := 133) rfl ?_
        exact p_iret (z_dec zd_X1_joined 31 rfl) rfl ⟨(by unfold f_X1_joined; rw [if_neg hs1_38, if_neg hs1_42, if_neg hs1_43, if_neg hs1_45, if_neg hs1_47, if_neg hs1_60, if_pos hs1_61, if_neg h125]), rfl, rfl⟩
      · refine p_iconst (z_dec zd_X1_joined 28 rfl) (v := 1) (by decide) (n := 129) rfl ?_
        refine p_goto (z_dec zd_X1_joined 29 rfl) (t := 133) (by decide) ?_
        exact p_iret (z_dec zd_X1_joined 31 rfl) rfl ⟨(by unfold f_X1_joined; rw [if_neg hs1_38, if_neg hs1_42, if_neg hs1_43, if_neg hs1_45, if_neg hs1_47, if_neg hs1_60, if_pos hs1_61, if_pos h125]), rfl, rfl⟩
    by_cases hs1_62 : sign = 62
    · refine p_lookup (z_dec zd_X1_joined 1 rfl) (off := 133) (t := 134) (by decide) (by rw [hs1_62]; rfl) (by decide) ?_
      refine p_iload_n (z_dec zd_X1_joined 32 rfl) rfl 1 rfl (n := 135) rfl ?_
      refine p_iload_n (z_dec zd_X1_joined 33 rfl) rfl 2 rfl (n := 136) rfl ?_
      refine p_icmp_le (z_dec zd_X1_joined 34 rfl) (t := 143) (by decide) (n := 139) rfl (fun h136 => ?_) (fun h136 => ?_)
      · refine p_iconst (z_dec zd_X1_joined 37 rfl) (v := 0) (by decide) (n := 144) rfl ?_
        exact p_iret (z_dec zd_X1_joined 38 rfl) rfl ⟨(by unfold f_X1_joined; rw [if_neg hs1_38, if_neg hs1_42, if_neg hs1_43, if_neg hs1_45, if_neg hs1_47, if_neg hs1_60, if_neg hs1_61, if_pos hs1_62, if_pos h136]), rfl, rfl⟩
      · refine p_iconst (z_dec zd_X1_joined 35 rfl) (v := 1) (by decide) (n := 140) rfl ?_
        refine p_goto (z_dec zd_X1_joined 36 rfl) (t := 144) (by decide) ?_
        exact p_iret (z_dec zd_X1_joined 38 rfl) rfl ⟨(by unfold f_X1_joined; rw [if_neg hs1_38, if_neg hs1_42, if_neg hs1_43, if_neg hs1_45, if_neg hs1_47, if_neg hs1_60, if_neg hs1_61, if_pos hs1_62, if_neg h136]), rfl, rfl⟩
    by_cases hs1_124 : sign = 124
    · refine p_lookup (z_dec zd_X1_joined 1 rfl) (off := 83) (t := 84) (by decide) (by rw [hs1_124]; rfl) (by decide) ?_
      refine p_iload_n (z_dec zd_X1_joined 2 rfl) rfl 1 rfl (n := 85) rfl ?_
      refine p_if_ne (z_dec zd_X1_joined 3 rfl) (t := 92) (by decide) (n := 88) rfl (fun h85 => ?_) (fun h85 => ?_)
      · refine p_iconst (z_dec zd_X1_joined 6 rfl) (v := 1) (by decide) (n := 93) rfl ?_
        refine p_goto (z_dec zd_X1_joined 7 rfl) (t := 97) (by decide) ?_
        exact p_iret (z_dec zd_X1_joined 9 rfl) rfl ⟨(by unfold f_X1_joined; rw [if_neg hs1_38, if_neg hs1_42, if_neg hs1_43, if_neg hs1_45, if_neg hs1_47, if_neg hs1_60, if_neg hs1_61, if_neg hs1_62, if_pos hs1_124, if_neg h85]), rfl, rfl⟩
      · refine p_iload_n (z_dec zd_X1_joined 4 rfl) rfl 2 rfl (n := 89) rfl ?_
        refine p_if_eq (z_dec zd_X1_joined 5 rfl) (t := 96) (by decide) (n := 92) rfl (fun h89 => ?_) (fun h89 => ?_)
        · refine p_iconst (z_dec zd_X1_joined 8 rfl) (v := 0) (by decide) (n := 97) rfl ?_
          exact p_iret (z_dec zd_X1_joined 9 rfl) rfl ⟨(by unfold f_X1_joined; rw [if_neg hs1_38, if_neg hs1_42, if_neg hs1_43, if_neg hs1_45, if_neg hs1_47, if_neg hs1_60, if_neg hs1_61, if_neg hs1_62, if_pos hs1_124, if_pos h85, if_pos h89]), rfl, rfl⟩
        · refine p_iconst (z_dec zd_X1_joined 6 rfl) (v := 1) (by decide) (n := 93) rfl ?_
          refine p_goto (z_dec zd_X1_joined 7 rfl) (t := 97) (by decide) ?_
          exact p_iret (z_dec zd_X1_joined 9 rfl) rfl ⟨(by unfold f_X1_joined; rw [if_neg hs1_38, if_neg hs1_42, if_neg hs1_43, if_neg hs1_45, if_neg hs1_47, if_neg hs1_60, if_neg hs1_61, if_neg hs1_62, if_pos hs1_124, if_pos h85, if_neg h89]), rfl, rfl⟩
    refine p_lookup (z_dec zd_X1_joined 1 rfl) (off := 168) (t := 169) (by decide) ((lv_osw (a := 38) hs1_38 rfl).trans ((lv_osw (a := 42) hs1_42 rfl).trans ((lv_osw (a := 43) hs1_43 rfl).trans ((lv_osw (a := 45) hs1_45 rfl).trans ((lv_osw (a := 47) hs1_47 rfl).trans ((lv_osw (a := 60) hs1_60 rfl).trans ((lv_osw (a := 61) hs1_61 rfl).trans ((lv_osw (a := 62) hs1_62 rfl).trans ((lv_osw (a := 124) hs1_124 rfl).trans rfl))))))))) (by decide) ?_
    refine p_iload_n (z_dec zd_X1_joined 59 rfl) rfl 2 rfl (n := 170) rfl ?_
    refine p_if_ne (z_dec zd_X1_joined 60 rfl) (t := 177) (by decide) (n := 173) rfl (fun h170 => ?_) (fun h170 => ?_)
    · refine p_iload_n (z_dec zd_X1_joined 63 rfl) rfl 1 rfl (n := 178) rfl ?_
      refine p_iload_n (z_dec zd_X1_joined 64 rfl) rfl 2 rfl (n := 179) rfl ?_
      refine p_irem (z_dec zd_X1_joined 65 rfl) h170 (n := 180) rfl ?_
      exact p_iret (z_dec zd_X1_joined 66 rfl) rfl ⟨(by unfold f_X1_joined; rw [if_neg hs1_38, if_neg hs1_42, if_neg hs1_43, if_neg hs1_45, if_neg hs1_47, if_neg hs1_60, if_neg hs1_61, if_neg hs1_62, if_neg hs1_124, if_neg h170]), rfl, rfl⟩
    · refine p_iconst (z_dec zd_X1_joined 61 rfl) (v := 0) (by decide) (n := 174) rfl ?_
      refine p_goto (z_dec zd_X1_joined 62 rfl) (t := 180) (by decide) ?_
      exact p_iret (z_dec zd_X1_joined 66 rfl) rfl ⟨(by unfold f_X1_joined; rw [if_neg hs1_38, if_neg hs1_42, if_neg hs1_43, if_neg hs1_45, if_neg hs1_47, if_neg hs1_60, if_neg hs1_61, if_neg hs1_62, if_neg hs1_124, if_pos h170]), rfl, rfl⟩
  exact hentry
def f_X1_named (I : Nat → Nat → Int32) (k : Nat) (name : Int32) (one : Nat) (other : Nat) (umpire : Nat) : Int32 := if name = 97 then (I (k + 1) one) else if name = 98 then (I (k + 1) other) else if name = 99 then (I k 5) else if name = 100 then (I k 5) else if name = 101 then (I k 5) else if name = 102 then (I k 5) else if name = 103 then (I (k + 2) umpire) else if name = 104 then (I k 5) else if name = 105 then (I k 5) else if name = 106 then (I k 5) else if name = 107 then (I k 5) else if name = 108 then (f_J6_bitCount_0f7a4 (I (k + 3) umpire)) else if name = 109 then (f_J6_bitCount_0f7a4 (I (k + 3) one)) else (I k 5)
set_option maxHeartbeats 4000000 in
set_option maxRecDepth 100000 in
theorem c_X1_named (d : Nat) (hd : 1 ≤ d) (b : Bool) (I : Nat → Nat → Int32) (L : Nat → Nat → Int64) (k : Nat) (hy : z_Yd b k) (name : Int32) (one : Nat) (hone : one < 10) (other : Nat) (hother : other < 10) (umpire : Nat) (humpire : umpire < 10) : z_CT zm_X1_named d [.int name, .ref k, .int (nI one), .int (nI other), .int (nI umpire)] SH (I, L, z_R b) 0 0 (z_ret (some (.int (f_X1_named I k name one other umpire))) (I, L, z_R b)) := by
  refine z_enter (by decide +kernel) (Nat.le_of_ble_eq_true rfl) ?_
  have hentry : PW zm_X1_named d 0 [(0, .int name), (1, .ref k), (2, .int (nI one)), (3, .int (nI other)), (4, .int (nI umpire))] [] SH (I, L, z_R b) 0 0 (z_ret (some (.int (f_X1_named I k name one other umpire))) (I, L, z_R b)) := by
    refine p_iload_n (z_dec zd_X1_named 0 rfl) rfl 0 rfl (n := 1) rfl ?_
    by_cases hs1_97 : name = 97
    · refine p_tableIn (z_dec zd_X1_named 1 rfl) (off := 67) (t := 68) (by rw [hs1_97]; decide) (by rw [hs1_97]; decide) (by rw [hs1_97]; rfl) (by decide) ?_
      refine p_aload_n (z_dec zd_X1_named 2 rfl) rfl 1 rfl (n := 69) rfl ?_
      refine q_getR (z_dec zd_X1_named 3 rfl) zf_X1_106 (i := (k + 1)) hy.2.2.1 hy.1 (n := 72) rfl ?_
      refine p_iload_n (z_dec zd_X1_named 4 rfl) rfl 2 rfl (n := 73) rfl ?_
      refine q_iald (z_dec zd_X1_named 5 rfl) hy.2.1.1 (by decide) (one) rfl (by omega) (v := (I (k + 1) one)) rfl (n := 74) rfl ?_
      exact p_iret (z_dec zd_X1_named 6 rfl) rfl ⟨(by unfold f_X1_named; rw [if_pos hs1_97]), rfl, rfl⟩
    by_cases hs1_98 : name = 98
    · refine p_tableIn (z_dec zd_X1_named 1 rfl) (off := 74) (t := 75) (by rw [hs1_98]; decide) (by rw [hs1_98]; decide) (by rw [hs1_98]; rfl) (by decide) ?_
      refine p_aload_n (z_dec zd_X1_named 7 rfl) rfl 1 rfl (n := 76) rfl ?_
      refine q_getR (z_dec zd_X1_named 8 rfl) zf_X1_106 (i := (k + 1)) hy.2.2.1 hy.1 (n := 79) rfl ?_
      refine p_iload_n (z_dec zd_X1_named 9 rfl) rfl 3 rfl (n := 80) rfl ?_
      refine q_iald (z_dec zd_X1_named 10 rfl) hy.2.1.1 (by decide) (other) rfl (by omega) (v := (I (k + 1) other)) rfl (n := 81) rfl ?_
      exact p_iret (z_dec zd_X1_named 11 rfl) rfl ⟨(by unfold f_X1_named; rw [if_neg hs1_97, if_pos hs1_98]), rfl, rfl⟩
    by_cases hs1_99 : name = 99
    · refine p_tableIn (z_dec zd_X1_named 1 rfl) (off := 110) (t := 111) (by rw [hs1_99]; decide) (by rw [hs1_99]; decide) (by rw [hs1_99]; rfl) (by decide) ?_
      refine p_aload_n (z_dec zd_X1_named 29 rfl) rfl 1 rfl (n := 112) rfl ?_
      refine q_getI (z_dec zd_X1_named 30 rfl) zf_X1_125 (by decide) hy.1 (v := (I k 5)) rfl (n := 115) rfl ?_
      exact p_iret (z_dec zd_X1_named 31 rfl) rfl ⟨(by unfold f_X1_named; rw [if_neg hs1_97, if_neg hs1_98, if_pos hs1_99]), rfl, rfl⟩
    by_cases hs1_100 : name = 100
    · refine p_tableIn (z_dec zd_X1_named 1 rfl) (off := 110) (t := 111) (by rw [hs1_100]; decide) (by rw [hs1_100]; decide) (by rw [hs1_100]; rfl) (by decide) ?_
      refine p_aload_n (z_dec zd_X1_named 29 rfl) rfl 1 rfl (n := 112) rfl ?_
      refine q_getI (z_dec zd_X1_named 30 rfl) zf_X1_125 (by decide) hy.1 (v := (I k 5)) rfl (n := 115) rfl ?_
      exact p_iret (z_dec zd_X1_named 31 rfl) rfl ⟨(by unfold f_X1_named; rw [if_neg hs1_97, if_neg hs1_98, if_neg hs1_99, if_pos hs1_100]), rfl, rfl⟩
    by_cases hs1_101 : name = 101
    · refine p_tableIn (z_dec zd_X1_named 1 rfl) (off := 110) (t := 111) (by rw [hs1_101]; decide) (by rw [hs1_101]; decide) (by rw [hs1_101]; rfl) (by decide) ?_
      refine p_aload_n (z_dec zd_X1_named 29 rfl) rfl 1 rfl (n := 112) rfl ?_
      refine q_getI (z_dec zd_X1_named 30 rfl) zf_X1_125 (by decide) hy.1 (v := (I k 5)) rfl (n := 115) rfl ?_
      exact p_iret (z_dec zd_X1_named 31 rfl) rfl ⟨(by unfold f_X1_named; rw [if_neg hs1_97, if_neg hs1_98, if_neg hs1_99, if_neg hs1_100, if_pos hs1_101]), rfl, rfl⟩
    by_cases hs1_102 : name = 102
    · refine p_tableIn (z_dec zd_X1_named 1 rfl) (off := 110) (t := 111) (by rw [hs1_102]; decide) (by rw [hs1_102]; decide) (by rw [hs1_102]; rfl) (by decide) ?_
      refine p_aload_n (z_dec zd_X1_named 29 rfl) rfl 1 rfl (n := 112) rfl ?_
      refine q_getI (z_dec zd_X1_named 30 rfl) zf_X1_125 (by decide) hy.1 (v := (I k 5)) rfl (n := 115) rfl ?_
      exact p_iret (z_dec zd_X1_named 31 rfl) rfl ⟨(by unfold f_X1_named; rw [if_neg hs1_97, if_neg hs1_98, if_neg hs1_99, if_neg hs1_100, if_neg hs1_101, if_pos hs1_102]), rfl, rfl⟩
    by_cases hs1_103 : name = 103
    · refine p_tableIn (z_dec zd_X1_named 1 rfl) (off := 81) (t := 82) (by rw [hs1_103]; decide) (by rw [hs1_103]; decide) (by rw [hs1_103]; rfl) (by decide) ?_
      refine p_aload_n (z_dec zd_X1_named 12 rfl) rfl 1 rfl (n := 83) rfl ?_
      refine q_getR (z_dec zd_X1_named 13 rfl) zf_X1_109 (i := (k + 2)) hy.2.2.2.1 hy.1 (n := 86) rfl ?_
      refine p_iload (z_dec zd_X1_named 14 rfl) 4 rfl (n := 88) rfl ?_
      refine q_iald (z_dec zd_X1_named 15 rfl) hy.2.1.2.1 (by decide) (umpire) rfl (by omega) (v := (I (k + 2) umpire)) rfl (n := 89) rfl ?_
      exact p_iret (z_dec zd_X1_named 16 rfl) rfl ⟨(by unfold f_X1_named; rw [if_neg hs1_97, if_neg hs1_98, if_neg hs1_99, if_neg hs1_100, if_neg hs1_101, if_neg hs1_102, if_pos hs1_103]), rfl, rfl⟩
    by_cases hs1_104 : name = 104
    · refine p_tableIn (z_dec zd_X1_named 1 rfl) (off := 110) (t := 111) (by rw [hs1_104]; decide) (by rw [hs1_104]; decide) (by rw [hs1_104]; rfl) (by decide) ?_
      refine p_aload_n (z_dec zd_X1_named 29 rfl) rfl 1 rfl (n := 112) rfl ?_
      refine q_getI (z_dec zd_X1_named 30 rfl) zf_X1_125 (by decide) hy.1 (v := (I k 5)) rfl (n := 115) rfl ?_
      exact p_iret (z_dec zd_X1_named 31 rfl) rfl ⟨(by unfold f_X1_named; rw [if_neg hs1_97, if_neg hs1_98, if_neg hs1_99, if_neg hs1_100, if_neg hs1_101, if_neg hs1_102, if_neg hs1_103, if_pos hs1_104]), rfl, rfl⟩
    by_cases hs1_105 : name = 105
    · refine p_tableIn (z_dec zd_X1_named 1 rfl) (off := 110) (t := 111) (by rw [hs1_105]; decide) (by rw [hs1_105]; decide) (by rw [hs1_105]; rfl) (by decide) ?_
      refine p_aload_n (z_dec zd_X1_named 29 rfl) rfl 1 rfl (n := 112) rfl ?_
      refine q_getI (z_dec zd_X1_named 30 rfl) zf_X1_125 (by decide) hy.1 (v := (I k 5)) rfl (n := 115) rfl ?_
      exact p_iret (z_dec zd_X1_named 31 rfl) rfl ⟨(by unfold f_X1_named; rw [if_neg hs1_97, if_neg hs1_98, if_neg hs1_99, if_neg hs1_100, if_neg hs1_101, if_neg hs1_102, if_neg hs1_103, if_neg hs1_104, if_pos hs1_105]), rfl, rfl⟩
    by_cases hs1_106 : name = 106
    · refine p_tableIn (z_dec zd_X1_named 1 rfl) (off := 110) (t := 111) (by rw [hs1_106]; decide) (by rw [hs1_106]; decide) (by rw [hs1_106]; rfl) (by decide) ?_
      refine p_aload_n (z_dec zd_X1_named 29 rfl) rfl 1 rfl (n := 112) rfl ?_
      refine q_getI (z_dec zd_X1_named 30 rfl) zf_X1_125 (by decide) hy.1 (v := (I k 5)) rfl (n := 115) rfl ?_
      exact p_iret (z_dec zd_X1_named 31 rfl) rfl ⟨(by unfold f_X1_named; rw [if_neg hs1_97, if_neg hs1_98, if_neg hs1_99, if_neg hs1_100, if_neg hs1_101, if_neg hs1_102, if_neg hs1_103, if_neg hs1_104, if_neg hs1_105, if_pos hs1_106]), rfl, rfl⟩
    by_cases hs1_107 : name = 107
    · refine p_tableIn (z_dec zd_X1_named 1 rfl) (off := 110) (t := 111) (by rw [hs1_107]; decide) (by rw [hs1_107]; decide) (by rw [hs1_107]; rfl) (by decide) ?_
      refine p_aload_n (z_dec zd_X1_named 29 rfl) rfl 1 rfl (n := 112) rfl ?_
      refine q_getI (z_dec zd_X1_named 30 rfl) zf_X1_125 (by decide) hy.1 (v := (I k 5)) rfl (n := 115) rfl ?_
      exact p_iret (z_dec zd_X1_named 31 rfl) rfl ⟨(by unfold f_X1_named; rw [if_neg hs1_97, if_neg hs1_98, if_neg hs1_99, if_neg hs1_100, if_neg hs1_101, if_neg hs1_102, if_neg hs1_103, if_neg hs1_104, if_neg hs1_105, if_neg hs1_106, if_pos hs1_107]), rfl, rfl⟩
    by_cases hs1_108 : name = 108
    · refine p_tableIn (z_dec zd_X1_named 1 rfl) (off := 89) (t := 90) (by rw [hs1_108]; decide) (by rw [hs1_108]; decide) (by rw [hs1_108]; rfl) (by decide) ?_
      refine p_aload_n (z_dec zd_X1_named 17 rfl) rfl 1 rfl (n := 91) rfl ?_
      refine q_getR (z_dec zd_X1_named 18 rfl) zf_X1_98 (i := (k + 3)) hy.2.2.2.2.1 hy.1 (n := 94) rfl ?_
      refine p_iload (z_dec zd_X1_named 19 rfl) 4 rfl (n := 96) rfl ?_
      refine q_iald (z_dec zd_X1_named 20 rfl) hy.2.1.2.2.1 (by decide) (umpire) rfl (by omega) (v := (I (k + 3) umpire)) rfl (n := 97) rfl ?_
      refine q_callS (As := [.int (I (k + 3) umpire)]) (rest := []) (z_dec zd_X1_named 21 rfl) zk_X1_101 zs_J6_bitCount_0f7a4 (c_J6_bitCount_0f7a4 (d - 1) (by omega) b I L (I (k + 3) umpire)) rfl rfl (Nat.le_of_ble_eq_true rfl) (by omega) (n := 100) rfl ?_
      show PW zm_X1_named d 100 [(0, .int name), (1, .ref k), (2, .int (nI one)), (3, .int (nI other)), (4, .int (nI umpire))] [.int (f_J6_bitCount_0f7a4 (I (k + 3) umpire))] SH (I, L, z_R b) 0 0 _
      exact p_iret (z_dec zd_X1_named 22 rfl) rfl ⟨(by unfold f_X1_named; rw [if_neg hs1_97, if_neg hs1_98, if_neg hs1_99, if_neg hs1_100, if_neg hs1_101, if_neg hs1_102, if_neg hs1_103, if_neg hs1_104, if_neg hs1_105, if_neg hs1_106, if_neg hs1_107, if_pos hs1_108]), rfl, rfl⟩
    by_cases hs1_109 : name = 109
    · refine p_tableIn (z_dec zd_X1_named 1 rfl) (off := 100) (t := 101) (by rw [hs1_109]; decide) (by rw [hs1_109]; decide) (by rw [hs1_109]; rfl) (by decide) ?_
      refine p_aload_n (z_dec zd_X1_named 23 rfl) rfl 1 rfl (n := 102) rfl ?_
      refine q_getR (z_dec zd_X1_named 24 rfl) zf_X1_98 (i := (k + 3)) hy.2.2.2.2.1 hy.1 (n := 105) rfl ?_
      refine p_iload_n (z_dec zd_X1_named 25 rfl) rfl 2 rfl (n := 106) rfl ?_
      refine q_iald (z_dec zd_X1_named 26 rfl) hy.2.1.2.2.1 (by decide) (one) rfl (by omega) (v := (I (k + 3) one)) rfl (n := 107) rfl ?_
      refine q_callS (As := [.int (I (k + 3) one)]) (rest := []) (z_dec zd_X1_named 27 rfl) zk_X1_101 zs_J6_bitCount_0f7a4 (c_J6_bitCount_0f7a4 (d - 1) (by omega) b I L (I (k + 3) one)) rfl rfl (Nat.le_of_ble_eq_true rfl) (by omega) (n := 110) rfl ?_
      show PW zm_X1_named d 110 [(0, .int name), (1, .ref k), (2, .int (nI one)), (3, .int (nI other)), (4, .int (nI umpire))] [.int (f_J6_bitCount_0f7a4 (I (k + 3) one))] SH (I, L, z_R b) 0 0 _
      exact p_iret (z_dec zd_X1_named 28 rfl) rfl ⟨(by unfold f_X1_named; rw [if_neg hs1_97, if_neg hs1_98, if_neg hs1_99, if_neg hs1_100, if_neg hs1_101, if_neg hs1_102, if_neg hs1_103, if_neg hs1_104, if_neg hs1_105, if_neg hs1_106, if_neg hs1_107, if_neg hs1_108, if_pos hs1_109]), rfl, rfl⟩
    have hs1_97n : ¬ name.toInt = 97 := lv_neT hs1_97 rfl
    have hs1_98n : ¬ name.toInt = 98 := lv_neT hs1_98 rfl
    have hs1_99n : ¬ name.toInt = 99 := lv_neT hs1_99 rfl
    have hs1_100n : ¬ name.toInt = 100 := lv_neT hs1_100 rfl
    have hs1_101n : ¬ name.toInt = 101 := lv_neT hs1_101 rfl
    have hs1_102n : ¬ name.toInt = 102 := lv_neT hs1_102 rfl
    have hs1_103n : ¬ name.toInt = 103 := lv_neT hs1_103 rfl
    have hs1_104n : ¬ name.toInt = 104 := lv_neT hs1_104 rfl
    have hs1_105n : ¬ name.toInt = 105 := lv_neT hs1_105 rfl
    have hs1_106n : ¬ name.toInt = 106 := lv_neT hs1_106 rfl
    have hs1_107n : ¬ name.toInt = 107 := lv_neT hs1_107 rfl
    have hs1_108n : ¬ name.toInt = 108 := lv_neT hs1_108 rfl
    have hs1_109n : ¬ name.toInt = 109 := lv_neT hs1_109 rfl
    refine p_tableOut (z_dec zd_X1_named 1 rfl) (t := 111) (by omega) (by decide) ?_
    refine p_aload_n (z_dec zd_X1_named 29 rfl) rfl 1 rfl (n := 112) rfl ?_
    refine q_getI (z_dec zd_X1_named 30 rfl) zf_X1_125 (by decide) hy.1 (v := (I k 5)) rfl (n := 115) rfl ?_
    exact p_iret (z_dec zd_X1_named 31 rfl) rfl ⟨(by unfold f_X1_named; rw [if_neg hs1_97, if_neg hs1_98, if_neg hs1_99, if_neg hs1_100, if_neg hs1_101, if_neg hs1_102, if_neg hs1_103, if_neg hs1_104, if_neg hs1_105, if_neg hs1_106, if_neg hs1_107, if_neg hs1_108, if_neg hs1_109]), rfl, rfl⟩
  exact hentry
def f_X1_withoutText (I : Nat → Nat → Int32) (k : Nat) (one : Nat) (other : Nat) (umpire : Nat) : Int32 := ((((6 + (I (k + 1) one)) - (I (k + 1) other)) + ((I (k + 2) umpire) / 20)) - ((f_J6_bitCount_0f7a4 (I (k + 3) one)) / 2))
set_option maxHeartbeats 4000000 in
set_option maxRecDepth 100000 in
theorem c_X1_withoutText (d : Nat) (hd : 1 ≤ d) (b : Bool) (I : Nat → Nat → Int32) (L : Nat → Nat → Int64) (k : Nat) (hy : z_Yd b k) (one : Nat) (hone : one < 10) (other : Nat) (hother : other < 10) (umpire : Nat) (humpire : umpire < 10) : z_CT zm_X1_withoutText d [.ref k, .int (nI one), .int (nI other), .int (nI umpire)] SH (I, L, z_R b) 0 0 (z_ret (some (.int (f_X1_withoutText I k one other umpire))) (I, L, z_R b)) := by
  refine z_enter (by decide +kernel) (Nat.le_of_ble_eq_true rfl) ?_
  have hentry : PW zm_X1_withoutText d 0 [(0, .ref k), (1, .int (nI one)), (2, .int (nI other)), (3, .int (nI umpire))] [] SH (I, L, z_R b) 0 0 (z_ret (some (.int (f_X1_withoutText I k one other umpire))) (I, L, z_R b)) := by
    refine p_aload_n (z_dec zd_X1_withoutText 0 rfl) rfl 0 rfl (n := 1) rfl ?_
    refine q_getR (z_dec zd_X1_withoutText 1 rfl) zf_X1_98 (i := (k + 3)) hy.2.2.2.2.1 hy.1 (n := 4) rfl ?_
    refine p_iload_n (z_dec zd_X1_withoutText 2 rfl) rfl 1 rfl (n := 5) rfl ?_
    refine q_iald (z_dec zd_X1_withoutText 3 rfl) hy.2.1.2.2.1 (by decide) (one) rfl (by omega) (v := (I (k + 3) one)) rfl (n := 6) rfl ?_
    refine q_callS (As := [.int (I (k + 3) one)]) (rest := []) (z_dec zd_X1_withoutText 4 rfl) zk_X1_101 zs_J6_bitCount_0f7a4 (c_J6_bitCount_0f7a4 (d - 1) (by omega) b I L (I (k + 3) one)) rfl rfl (Nat.le_of_ble_eq_true rfl) (by omega) (n := 9) rfl ?_
    show PW zm_X1_withoutText d 9 [(0, .ref k), (1, .int (nI one)), (2, .int (nI other)), (3, .int (nI umpire))] [.int (f_J6_bitCount_0f7a4 (I (k + 3) one))] SH (I, L, z_R b) 0 0 _
    refine p_istore (z_dec zd_X1_withoutText 5 rfl) (lv2 := [(4, .int (f_J6_bitCount_0f7a4 (I (k + 3) one))), (0, .ref k), (1, .int (nI one)), (2, .int (nI other)), (3, .int (nI umpire))]) (by decide) rfl (n := 11) rfl ?_
    refine p_bipush (z_dec zd_X1_withoutText 6 rfl) (v := 6) (by decide) (n := 13) rfl ?_
    refine p_aload_n (z_dec zd_X1_withoutText 7 rfl) rfl 1 rfl (n := 14) rfl ?_
    refine q_getR (z_dec zd_X1_withoutText 8 rfl) zf_X1_106 (i := (k + 1)) hy.2.2.1 hy.1 (n := 17) rfl ?_
    refine p_iload_n (z_dec zd_X1_withoutText 9 rfl) rfl 2 rfl (n := 18) rfl ?_
    refine q_iald (z_dec zd_X1_withoutText 10 rfl) hy.2.1.1 (by decide) (one) rfl (by omega) (v := (I (k + 1) one)) rfl (n := 19) rfl ?_
    refine p_iadd (z_dec zd_X1_withoutText 11 rfl) (n := 20) rfl ?_
    refine p_aload_n (z_dec zd_X1_withoutText 12 rfl) rfl 1 rfl (n := 21) rfl ?_
    refine q_getR (z_dec zd_X1_withoutText 13 rfl) zf_X1_106 (i := (k + 1)) hy.2.2.1 hy.1 (n := 24) rfl ?_
    refine p_iload_n (z_dec zd_X1_withoutText 14 rfl) rfl 3 rfl (n := 25) rfl ?_
    refine q_iald (z_dec zd_X1_withoutText 15 rfl) hy.2.1.1 (by decide) (other) rfl (by omega) (v := (I (k + 1) other)) rfl (n := 26) rfl ?_
    refine p_isub (z_dec zd_X1_withoutText 16 rfl) (n := 27) rfl ?_
    refine p_aload_n (z_dec zd_X1_withoutText 17 rfl) rfl 1 rfl (n := 28) rfl ?_
    refine q_getR (z_dec zd_X1_withoutText 18 rfl) zf_X1_109 (i := (k + 2)) hy.2.2.2.1 hy.1 (n := 31) rfl ?_
    refine p_iload_n (z_dec zd_X1_withoutText 19 rfl) rfl 4 rfl (n := 32) rfl ?_
    refine q_iald (z_dec zd_X1_withoutText 20 rfl) hy.2.1.2.1 (by decide) (umpire) rfl (by omega) (v := (I (k + 2) umpire)) rfl (n := 33) rfl ?_
    refine p_bipush (z_dec zd_X1_withoutText 21 rfl) (v := 20) (by decide) (n := 35) rfl ?_
    refine p_idiv (z_dec zd_X1_withoutText 22 rfl) (by decide) (n := 36) rfl ?_
    refine p_iadd (z_dec zd_X1_withoutText 23 rfl) (n := 37) rfl ?_
    refine p_iload (z_dec zd_X1_withoutText 24 rfl) 0 rfl (n := 39) rfl ?_
    refine p_iconst (z_dec zd_X1_withoutText 25 rfl) (v := 2) (by decide) (n := 40) rfl ?_
    refine p_idiv (z_dec zd_X1_withoutText 26 rfl) (by decide) (n := 41) rfl ?_
    refine p_isub (z_dec zd_X1_withoutText 27 rfl) (n := 42) rfl ?_
    exact p_iret (z_dec zd_X1_withoutText 28 rfl) rfl ⟨(by unfold f_X1_withoutText; rfl), rfl, rfl⟩
  exact hentry
def m_X1_push (I : Nat → Nat → Int32) (tp : Nat) (v : Int32) : Nat → Nat → Int32 := if 121 ≤ (nI tp) then I else (z_up (z_up I 13 8 ((nI tp) + 1)) 17 tp v)
set_option maxHeartbeats 4000000 in
set_option maxRecDepth 100000 in
theorem c_X1_push (d : Nat) (hd : 0 ≤ d) (b : Bool) (I : Nat → Nat → Int32) (L : Nat → Nat → Int64) (tp : Nat) (htp : I 13 8 = nI tp) (htp121 : tp ≤ 121) (v : Int32) : z_CT zm_X1_push d [.ref 13, .int v] SH (I, L, z_R b) 0 0 (z_ret (none) ((m_X1_push I tp v), L, z_R b)) := by
  refine z_enter (by decide +kernel) (Nat.le_of_ble_eq_true rfl) ?_
  have hentry : PW zm_X1_push d 0 [(0, .ref 13), (1, .int v)] [] SH (I, L, z_R b) 0 0 (z_ret (none) ((m_X1_push I tp v), L, z_R b)) := by
    refine p_aload_n (z_dec zd_X1_push 0 rfl) rfl 0 rfl (n := 1) rfl ?_
    refine q_getI (z_dec zd_X1_push 1 rfl) zf_X1_37 (by decide) rfl (v := (nI tp)) htp (n := 4) rfl ?_
    refine p_aload_n (z_dec zd_X1_push 2 rfl) rfl 0 rfl (n := 5) rfl ?_
    refine q_getR (z_dec zd_X1_push 3 rfl) zf_X1_34 (i := 17) rfl rfl (n := 8) rfl ?_
    refine p_alen (t := 0) (by decide) (z_dec zd_X1_push 4 rfl) rfl (v := 121) rfl (n := 9) rfl ?_
    refine p_icmp_ge (z_dec zd_X1_push 5 rfl) (t := 29) (by decide) (n := 12) rfl (fun h9 => ?_) (fun h9 => ?_)
    · exact p_vret (z_dec zd_X1_push 17 rfl) rfl ⟨rfl, rfl, (z_3 (by unfold m_X1_push; rw [if_pos h9]) rfl)⟩
    · have htl : tp < 121 := z_nge (a := 121) h9
      refine p_aload_n (z_dec zd_X1_push 6 rfl) rfl 0 rfl (n := 13) rfl ?_
      refine q_getR (z_dec zd_X1_push 7 rfl) zf_X1_34 (i := 17) rfl rfl (n := 16) rfl ?_
      refine p_aload_n (z_dec zd_X1_push 8 rfl) rfl 0 rfl (n := 17) rfl ?_
      refine p_dup (z_dec zd_X1_push 9 rfl) rfl (n := 18) rfl ?_
      refine q_getI (z_dec zd_X1_push 10 rfl) zf_X1_37 (by decide) rfl (v := (nI tp)) htp (n := 21) rfl ?_
      refine p_dup_x1 (z_dec zd_X1_push 11 rfl) rfl rfl (n := 22) rfl ?_
      refine p_iconst (z_dec zd_X1_push 12 rfl) (v := 1) (by decide) (n := 23) rfl ?_
      refine p_iadd (z_dec zd_X1_push 13 rfl) (n := 24) rfl ?_
      refine q_putI (z_dec zd_X1_push 14 rfl) zp_X1_37 (fun q => by cases q) rfl (n := 27) rfl ?_
      refine p_iload_n (z_dec zd_X1_push 15 rfl) rfl 1 rfl (n := 28) rfl ?_
      refine q_iast (z_dec zd_X1_push 16 rfl) rfl (by decide) (tp) rfl (by omega) (n := 29) rfl ?_
      exact p_vret (z_dec zd_X1_push 17 rfl) rfl ⟨rfl, rfl, (z_3 (by unfold m_X1_push; rw [if_neg h9]) rfl)⟩
  exact hentry
def f_X1_pop (I : Nat → Nat → Int32) (tp : Nat) : Int32 := if (nI tp) ≤ 0 then 0 else (I 17 (tp - 1))
def m_X1_pop (I : Nat → Nat → Int32) (tp : Nat) : Nat → Nat → Int32 := if (nI tp) ≤ 0 then I else (z_up I 13 8 (nI (tp - 1)))
set_option maxHeartbeats 4000000 in
set_option maxRecDepth 100000 in
theorem c_X1_pop (d : Nat) (hd : 0 ≤ d) (b : Bool) (I : Nat → Nat → Int32) (L : Nat → Nat → Int64) (tp : Nat) (htp : I 13 8 = nI tp) (htp121 : tp ≤ 121) : z_CT zm_X1_pop d [.ref 13] SH (I, L, z_R b) 0 0 (z_ret (some (.int (f_X1_pop I tp))) ((m_X1_pop I tp), L, z_R b)) := by
  refine z_enter (by decide +kernel) (Nat.le_of_ble_eq_true rfl) ?_
  have hentry : PW zm_X1_pop d 0 [(0, .ref 13)] [] SH (I, L, z_R b) 0 0 (z_ret (some (.int (f_X1_pop I tp))) ((m_X1_pop I tp), L, z_R b)) := by
    refine p_aload_n (z_dec zd_X1_pop 0 rfl) rfl 0 rfl (n := 1) rfl ?_
    refine q_getI (z_dec zd_X1_pop 1 rfl) zf_X1_37 (by decide) rfl (v := (nI tp)) htp (n := 4) rfl ?_
    refine p_if_le (z_dec zd_X1_pop 2 rfl) (t := 26) (by decide) (n := 7) rfl (fun h4 => ?_) (fun h4 => ?_)
    · refine p_iconst (z_dec zd_X1_pop 14 rfl) (v := 0) (by decide) (n := 27) rfl ?_
      exact p_iret (z_dec zd_X1_pop 15 rfl) rfl ⟨(by unfold f_X1_pop; rw [if_pos h4]), rfl, (z_3 (by unfold m_X1_pop; rw [if_pos h4]) rfl)⟩
    · have htl : 0 < tp := z_nge (a := tp) (b := 0) h4
      refine p_aload_n (z_dec zd_X1_pop 3 rfl) rfl 0 rfl (n := 8) rfl ?_
      refine q_getR (z_dec zd_X1_pop 4 rfl) zf_X1_34 (i := 17) rfl rfl (n := 11) rfl ?_
      refine p_aload_n (z_dec zd_X1_pop 5 rfl) rfl 0 rfl (n := 12) rfl ?_
      refine p_dup (z_dec zd_X1_pop 6 rfl) rfl (n := 13) rfl ?_
      refine q_getI (z_dec zd_X1_pop 7 rfl) zf_X1_37 (by decide) rfl (v := (nI tp)) htp (n := 16) rfl ?_
      refine p_iconst (z_dec zd_X1_pop 8 rfl) (v := 1) (by decide) (n := 17) rfl ?_
      refine p_isub (z_dec zd_X1_pop 9 rfl) (n := 18) rfl ?_
      refine z_lv rfl (show _ = [.int (nI (tp - 1)), .ref 13, .ref 17] from (by rw [z_pred htl])) rfl ?_
      refine p_dup_x1 (z_dec zd_X1_pop 10 rfl) rfl rfl (n := 19) rfl ?_
      refine q_putI (z_dec zd_X1_pop 11 rfl) zp_X1_37 (fun q => by cases q) rfl (n := 22) rfl ?_
      refine q_iald (z_dec zd_X1_pop 12 rfl) rfl (by decide) ((tp - 1)) rfl (by omega) (v := (I 17 (tp - 1))) rfl (n := 23) rfl ?_
      refine p_goto (z_dec zd_X1_pop 13 rfl) (t := 27) (by decide) ?_
      exact p_iret (z_dec zd_X1_pop 15 rfl) rfl ⟨(by unfold f_X1_pop; rw [if_neg h4]), rfl, (z_3 (by unfold m_X1_pop; rw [if_neg h4]) rfl)⟩
  exact hentry
def f_X8_feed (I : Nat → Nat → Int32) (ln : Nat) (letter : Int32) : Int32 := if letter < 0 then (-1) else if letter ≤ 255 then if (f_X1_append I ln letter) = 0 then (-3) else ((m_X1_append I ln letter) 13 1) else (-1)
def m_X8_feed (I : Nat → Nat → Int32) (ln : Nat) (letter : Int32) : Nat → Nat → Int32 := if letter < 0 then I else if letter ≤ 255 then if (f_X1_append I ln letter) = 0 then (m_X1_append I ln letter) else (m_X1_append I ln letter) else I
set_option maxHeartbeats 4000000 in
set_option maxRecDepth 100000 in
theorem c_X8_feed (d : Nat) (hd : 1 ≤ d) (b : Bool) (I : Nat → Nat → Int32) (L : Nat → Nat → Int64) (ln : Nat) (hln : I 13 1 = nI ln) (hl120 : ln ≤ 120) (letter : Int32) : z_CT zm_X8_feed d [.ref 0, .int letter] SH (I, L, z_R b) 0 0 (z_ret (some (.int (f_X8_feed I ln letter))) ((m_X8_feed I ln letter), L, z_R b)) := by
  refine z_enter (by decide +kernel) (Nat.le_of_ble_eq_true rfl) ?_
  have hentry : PW zm_X8_feed d 0 [(0, .ref 0), (1, .int letter)] [] SH (I, L, z_R b) 0 0 (z_ret (some (.int (f_X8_feed I ln letter))) ((m_X8_feed I ln letter), L, z_R b)) := by
    refine p_iload_n (z_dec zd_X8_feed 0 rfl) rfl 1 rfl (n := 1) rfl ?_
    refine p_if_lt (z_dec zd_X8_feed 1 rfl) (t := 11) (by decide) (n := 4) rfl (fun h1 => ?_) (fun h1 => ?_)
    · refine p_iconst (z_dec zd_X8_feed 5 rfl) (v := (-1)) (by decide) (n := 12) rfl ?_
      exact p_iret (z_dec zd_X8_feed 6 rfl) rfl ⟨(by unfold f_X8_feed; rw [if_pos h1]), rfl, (z_3 (by unfold m_X8_feed; rw [if_pos h1]) rfl)⟩
    · refine p_iload_n (z_dec zd_X8_feed 2 rfl) rfl 1 rfl (n := 5) rfl ?_
      refine p_sipush (z_dec zd_X8_feed 3 rfl) (v := 255) (by decide) (n := 8) rfl ?_
      refine p_icmp_le (z_dec zd_X8_feed 4 rfl) (t := 13) (by decide) (n := 11) rfl (fun h8 => ?_) (fun h8 => ?_)
      · refine p_aload_n (z_dec zd_X8_feed 7 rfl) rfl 0 rfl (n := 14) rfl ?_
        refine q_getR (z_dec zd_X8_feed 8 rfl) zf_X8_26 (i := 13) rfl rfl (n := 17) rfl ?_
        refine p_iload_n (z_dec zd_X8_feed 9 rfl) rfl 1 rfl (n := 18) rfl ?_
        refine q_callV (As := [.int letter]) (rest := []) (z_dec zd_X8_feed 10 rfl) zk_X8_115 zv_X1_append (c_X1_append (d - 1) (by omega) b I L ln hln hl120 letter) rfl ⟨_, _, rfl⟩ rfl rfl (Nat.le_of_ble_eq_true rfl) (by omega) (n := 21) rfl ?_
        show PW zm_X8_feed d 21 [(0, .ref 0), (1, .int letter)] [.int (f_X1_append I ln letter)] SH ((m_X1_append I ln letter), L, z_R b) 0 0 _
        refine p_if_eq (z_dec zd_X8_feed 11 rfl) (t := 34) (by decide) (n := 24) rfl (fun h21 => ?_) (fun h21 => ?_)
        · refine p_bipush (z_dec zd_X8_feed 16 rfl) (v := (-3)) (by decide) (n := 36) rfl ?_
          exact p_iret (z_dec zd_X8_feed 17 rfl) rfl ⟨(by unfold f_X8_feed; rw [if_neg h1, if_pos h8, if_pos h21]), rfl, (z_3 (by unfold m_X8_feed; rw [if_neg h1, if_pos h8, if_pos h21]) rfl)⟩
        · refine p_aload_n (z_dec zd_X8_feed 12 rfl) rfl 0 rfl (n := 25) rfl ?_
          refine q_getR (z_dec zd_X8_feed 13 rfl) zf_X8_26 (i := 13) rfl rfl (n := 28) rfl ?_
          refine q_getI (z_dec zd_X8_feed 14 rfl) zf_X8_118 (by decide) rfl (v := ((m_X1_append I ln letter) 13 1)) rfl (n := 31) rfl ?_
          refine p_goto (z_dec zd_X8_feed 15 rfl) (t := 36) (by decide) ?_
          exact p_iret (z_dec zd_X8_feed 17 rfl) rfl ⟨(by unfold f_X8_feed; rw [if_neg h1, if_pos h8, if_neg h21]), rfl, (z_3 (by unfold m_X8_feed; rw [if_neg h1, if_pos h8, if_neg h21]) rfl)⟩
      · refine p_iconst (z_dec zd_X8_feed 5 rfl) (v := (-1)) (by decide) (n := 12) rfl ?_
        exact p_iret (z_dec zd_X8_feed 6 rfl) rfl ⟨(by unfold f_X8_feed; rw [if_neg h1, if_neg h8]), rfl, (z_3 (by unfold m_X8_feed; rw [if_neg h1, if_neg h8]) rfl)⟩
  exact hentry
