def f_X8_isShelf (sh : Int32) : Int32 := if sh < 0 then 0 else if 6 ≤ sh then 0 else 1
set_option maxHeartbeats 4000000 in
set_option maxRecDepth 100000 in
theorem c_X8_isShelf (d : Nat) (hd : 0 ≤ d) (b : Bool) (I : Nat → Nat → Int32) (L : Nat → Nat → Int64) (sh : Int32) : z_CT zm_X8_isShelf d [.int sh] SH (I, L, z_R b) 0 0 (z_ret (some (.int (f_X8_isShelf sh))) (I, L, z_R b)) := by
  refine z_enter (by decide +kernel) (Nat.le_of_ble_eq_true rfl) ?_
  have hentry : PW zm_X8_isShelf d 0 [(0, .int sh)] [] SH (I, L, z_R b) 0 0 (z_ret (some (.int (f_X8_isShelf sh))) (I, L, z_R b)) := by
    refine p_iload_n (z_dec zd_X8_isShelf 0 rfl) rfl 0 rfl (n := 1) rfl ?_
    refine p_if_lt (z_dec zd_X8_isShelf 1 rfl) (t := 14) (by decide) (n := 4) rfl (fun h1 => ?_) (fun h1 => ?_)
    · refine p_iconst (z_dec zd_X8_isShelf 7 rfl) (v := 0) (by decide) (n := 15) rfl ?_
      exact p_zret (z_dec zd_X8_isShelf 8 rfl) rfl (Or.inl rfl) ⟨(by unfold f_X8_isShelf; rw [if_pos h1]), rfl, rfl⟩
    · refine p_iload_n (z_dec zd_X8_isShelf 2 rfl) rfl 0 rfl (n := 5) rfl ?_
      refine p_bipush (z_dec zd_X8_isShelf 3 rfl) (v := 6) (by decide) (n := 7) rfl ?_
      refine p_icmp_ge (z_dec zd_X8_isShelf 4 rfl) (t := 14) (by decide) (n := 10) rfl (fun h7 => ?_) (fun h7 => ?_)
      · refine p_iconst (z_dec zd_X8_isShelf 7 rfl) (v := 0) (by decide) (n := 15) rfl ?_
        exact p_zret (z_dec zd_X8_isShelf 8 rfl) rfl (Or.inl rfl) ⟨(by unfold f_X8_isShelf; rw [if_neg h1, if_pos h7]), rfl, rfl⟩
      · refine p_iconst (z_dec zd_X8_isShelf 5 rfl) (v := 1) (by decide) (n := 11) rfl ?_
        refine p_goto (z_dec zd_X8_isShelf 6 rfl) (t := 15) (by decide) ?_
        exact p_zret (z_dec zd_X8_isShelf 8 rfl) rfl (Or.inr rfl) ⟨(by unfold f_X8_isShelf; rw [if_neg h1, if_neg h7]), rfl, rfl⟩
  exact hentry
theorem fb_X8_isShelf (sh : Int32) : f_X8_isShelf sh = 0 ∨ f_X8_isShelf sh = 1 := by
  unfold f_X8_isShelf
  (repeat' split) <;> first | exact Or.inl rfl | exact Or.inr rfl
def f_X8_isPart (part : Int32) : Int32 := if part = 0 then 1 else if part = 1 then 1 else 0
set_option maxHeartbeats 4000000 in
set_option maxRecDepth 100000 in
theorem c_X8_isPart (d : Nat) (hd : 0 ≤ d) (b : Bool) (I : Nat → Nat → Int32) (L : Nat → Nat → Int64) (part : Int32) : z_CT zm_X8_isPart d [.int part] SH (I, L, z_R b) 0 0 (z_ret (some (.int (f_X8_isPart part))) (I, L, z_R b)) := by
  refine z_enter (by decide +kernel) (Nat.le_of_ble_eq_true rfl) ?_
  have hentry : PW zm_X8_isPart d 0 [(0, .int part)] [] SH (I, L, z_R b) 0 0 (z_ret (some (.int (f_X8_isPart part))) (I, L, z_R b)) := by
    refine p_iload_n (z_dec zd_X8_isPart 0 rfl) rfl 0 rfl (n := 1) rfl ?_
    refine p_if_eq (z_dec zd_X8_isPart 1 rfl) (t := 9) (by decide) (n := 4) rfl (fun h1 => ?_) (fun h1 => ?_)
    · refine p_iconst (z_dec zd_X8_isPart 5 rfl) (v := 1) (by decide) (n := 10) rfl ?_
      refine p_goto (z_dec zd_X8_isPart 6 rfl) (t := 14) (by decide) ?_
      exact p_zret (z_dec zd_X8_isPart 8 rfl) rfl (Or.inr rfl) ⟨(by unfold f_X8_isPart; rw [if_pos h1]), rfl, rfl⟩
    · refine p_iload_n (z_dec zd_X8_isPart 2 rfl) rfl 0 rfl (n := 5) rfl ?_
      refine p_iconst (z_dec zd_X8_isPart 3 rfl) (v := 1) (by decide) (n := 6) rfl ?_
      refine p_icmp_ne (z_dec zd_X8_isPart 4 rfl) (t := 13) (by decide) (n := 9) rfl (fun h6 => ?_) (fun h6 => ?_)
      · refine p_iconst (z_dec zd_X8_isPart 7 rfl) (v := 0) (by decide) (n := 14) rfl ?_
        exact p_zret (z_dec zd_X8_isPart 8 rfl) rfl (Or.inl rfl) ⟨(by unfold f_X8_isPart; rw [if_neg h1, if_neg h6]), rfl, rfl⟩
      · refine p_iconst (z_dec zd_X8_isPart 5 rfl) (v := 1) (by decide) (n := 10) rfl ?_
        refine p_goto (z_dec zd_X8_isPart 6 rfl) (t := 14) (by decide) ?_
        exact p_zret (z_dec zd_X8_isPart 8 rfl) rfl (Or.inr rfl) ⟨(by unfold f_X8_isPart; rw [if_neg h1, if_pos h6]), rfl, rfl⟩
  exact hentry
theorem fb_X8_isPart (part : Int32) : f_X8_isPart part = 0 ∨ f_X8_isPart part = 1 := by
  unfold f_X8_isPart
  (repeat' split) <;> first | exact Or.inl rfl | exact Or.inr rfl
def f_X8_isWithin (what : Int32) (v : Int32) : Int32 := if what = 0 then if v < 0 then 0 else if 9 < v then 0 else 1 else if what = 1 then if v < 0 then 0 else if 99 < v then 0 else 1 else if what = 2 then if v < 0 then 0 else if 255 < v then 0 else 1 else if what = 3 then if v < 0 then 0 else if 3 < v then 0 else 1 else if what = 4 then if v < 0 then 0 else if 99 < v then 0 else 1 else if what = 5 then 1 else 0
set_option maxHeartbeats 4000000 in
set_option maxRecDepth 100000 in
theorem c_X8_isWithin (d : Nat) (hd : 0 ≤ d) (b : Bool) (I : Nat → Nat → Int32) (L : Nat → Nat → Int64) (what : Int32) (v : Int32) : z_CT zm_X8_isWithin d [.int what, .int v] SH (I, L, z_R b) 0 0 (z_ret (some (.int (f_X8_isWithin what v))) (I, L, z_R b)) := by
  refine z_enter (by decide +kernel) (Nat.le_of_ble_eq_true rfl) ?_
  have hentry : PW zm_X8_isWithin d 0 [(0, .int what), (1, .int v)] [] SH (I, L, z_R b) 0 0 (z_ret (some (.int (f_X8_isWithin what v))) (I, L, z_R b)) := by
    refine p_iload_n (z_dec zd_X8_isWithin 0 rfl) rfl 0 rfl (n := 1) rfl ?_
    by_cases hs1_0 : what = 0
    · refine p_tableIn (z_dec zd_X8_isWithin 1 rfl) (off := 35) (t := 36) (by rw [hs1_0]; decide) (by rw [hs1_0]; decide) (by rw [hs1_0]; rfl) (by decide) ?_
      refine p_iload_n (z_dec zd_X8_isWithin 2 rfl) rfl 1 rfl (n := 37) rfl ?_
      refine p_if_lt (z_dec zd_X8_isWithin 3 rfl) (t := 50) (by decide) (n := 40) rfl (fun h37 => ?_) (fun h37 => ?_)
      · refine p_iconst (z_dec zd_X8_isWithin 9 rfl) (v := 0) (by decide) (n := 51) rfl ?_
        exact p_zret (z_dec zd_X8_isWithin 10 rfl) rfl (Or.inl rfl) ⟨(by unfold f_X8_isWithin; rw [if_pos hs1_0, if_pos h37]), rfl, rfl⟩
      · refine p_iload_n (z_dec zd_X8_isWithin 4 rfl) rfl 1 rfl (n := 41) rfl ?_
        refine p_bipush (z_dec zd_X8_isWithin 5 rfl) (v := 9) (by decide) (n := 43) rfl ?_
        refine p_icmp_gt (z_dec zd_X8_isWithin 6 rfl) (t := 50) (by decide) (n := 46) rfl (fun h43 => ?_) (fun h43 => ?_)
        · refine p_iconst (z_dec zd_X8_isWithin 9 rfl) (v := 0) (by decide) (n := 51) rfl ?_
          exact p_zret (z_dec zd_X8_isWithin 10 rfl) rfl (Or.inl rfl) ⟨(by unfold f_X8_isWithin; rw [if_pos hs1_0, if_neg h37, if_pos h43]), rfl, rfl⟩
        · refine p_iconst (z_dec zd_X8_isWithin 7 rfl) (v := 1) (by decide) (n := 47) rfl ?_
          refine p_goto (z_dec zd_X8_isWithin 8 rfl) (t := 51) (by decide) ?_
          exact p_zret (z_dec zd_X8_isWithin 10 rfl) rfl (Or.inr rfl) ⟨(by unfold f_X8_isWithin; rw [if_pos hs1_0, if_neg h37, if_neg h43]), rfl, rfl⟩
    by_cases hs1_1 : what = 1
    · refine p_tableIn (z_dec zd_X8_isWithin 1 rfl) (off := 51) (t := 52) (by rw [hs1_1]; decide) (by rw [hs1_1]; decide) (by rw [hs1_1]; rfl) (by decide) ?_
      refine p_iload_n (z_dec zd_X8_isWithin 11 rfl) rfl 1 rfl (n := 53) rfl ?_
      refine p_if_lt (z_dec zd_X8_isWithin 12 rfl) (t := 66) (by decide) (n := 56) rfl (fun h53 => ?_) (fun h53 => ?_)
      · refine p_iconst (z_dec zd_X8_isWithin 18 rfl) (v := 0) (by decide) (n := 67) rfl ?_
        exact p_zret (z_dec zd_X8_isWithin 19 rfl) rfl (Or.inl rfl) ⟨(by unfold f_X8_isWithin; rw [if_neg hs1_0, if_pos hs1_1, if_pos h53]), rfl, rfl⟩
      · refine p_iload_n (z_dec zd_X8_isWithin 13 rfl) rfl 1 rfl (n := 57) rfl ?_
        refine p_bipush (z_dec zd_X8_isWithin 14 rfl) (v := 99) (by decide) (n := 59) rfl ?_
        refine p_icmp_gt (z_dec zd_X8_isWithin 15 rfl) (t := 66) (by decide) (n := 62) rfl (fun h59 => ?_) (fun h59 => ?_)
        · refine p_iconst (z_dec zd_X8_isWithin 18 rfl) (v := 0) (by decide) (n := 67) rfl ?_
          exact p_zret (z_dec zd_X8_isWithin 19 rfl) rfl (Or.inl rfl) ⟨(by unfold f_X8_isWithin; rw [if_neg hs1_0, if_pos hs1_1, if_neg h53, if_pos h59]), rfl, rfl⟩
        · refine p_iconst (z_dec zd_X8_isWithin 16 rfl) (v := 1) (by decide) (n := 63) rfl ?_
          refine p_goto (z_dec zd_X8_isWithin 17 rfl) (t := 67) (by decide) ?_
          exact p_zret (z_dec zd_X8_isWithin 19 rfl) rfl (Or.inr rfl) ⟨(by unfold f_X8_isWithin; rw [if_neg hs1_0, if_pos hs1_1, if_neg h53, if_neg h59]), rfl, rfl⟩
    by_cases hs1_2 : what = 2
    · refine p_tableIn (z_dec zd_X8_isWithin 1 rfl) (off := 67) (t := 68) (by rw [hs1_2]; decide) (by rw [hs1_2]; decide) (by rw [hs1_2]; rfl) (by decide) ?_
      refine p_iload_n (z_dec zd_X8_isWithin 20 rfl) rfl 1 rfl (n := 69) rfl ?_
      refine p_if_lt (z_dec zd_X8_isWithin 21 rfl) (t := 83) (by decide) (n := 72) rfl (fun h69 => ?_) (fun h69 => ?_)
      · refine p_iconst (z_dec zd_X8_isWithin 27 rfl) (v := 0) (by decide) (n := 84) rfl ?_
        exact p_zret (z_dec zd_X8_isWithin 28 rfl) rfl (Or.inl rfl) ⟨(by unfold f_X8_isWithin; rw [if_neg hs1_0, if_neg hs1_1, if_pos hs1_2, if_pos h69]), rfl, rfl⟩
      · refine p_iload_n (z_dec zd_X8_isWithin 22 rfl) rfl 1 rfl (n := 73) rfl ?_
        refine p_sipush (z_dec zd_X8_isWithin 23 rfl) (v := 255) (by decide) (n := 76) rfl ?_
        refine p_icmp_gt (z_dec zd_X8_isWithin 24 rfl) (t := 83) (by decide) (n := 79) rfl (fun h76 => ?_) (fun h76 => ?_)
        · refine p_iconst (z_dec zd_X8_isWithin 27 rfl) (v := 0) (by decide) (n := 84) rfl ?_
          exact p_zret (z_dec zd_X8_isWithin 28 rfl) rfl (Or.inl rfl) ⟨(by unfold f_X8_isWithin; rw [if_neg hs1_0, if_neg hs1_1, if_pos hs1_2, if_neg h69, if_pos h76]), rfl, rfl⟩
        · refine p_iconst (z_dec zd_X8_isWithin 25 rfl) (v := 1) (by decide) (n := 80) rfl ?_
          refine p_goto (z_dec zd_X8_isWithin 26 rfl) (t := 84) (by decide) ?_
          exact p_zret (z_dec zd_X8_isWithin 28 rfl) rfl (Or.inr rfl) ⟨(by unfold f_X8_isWithin; rw [if_neg hs1_0, if_neg hs1_1, if_pos hs1_2, if_neg h69, if_neg h76]), rfl, rfl⟩
    by_cases hs1_3 : what = 3
    · refine p_tableIn (z_dec zd_X8_isWithin 1 rfl) (off := 84) (t := 85) (by rw [hs1_3]; decide) (by rw [hs1_3]; decide) (by rw [hs1_3]; rfl) (by decide) ?_
      refine p_iload_n (z_dec zd_X8_isWithin 29 rfl) rfl 1 rfl (n := 86) rfl ?_
      refine p_if_lt (z_dec zd_X8_isWithin 30 rfl) (t := 98) (by decide) (n := 89) rfl (fun h86 => ?_) (fun h86 => ?_)
      · refine p_iconst (z_dec zd_X8_isWithin 36 rfl) (v := 0) (by decide) (n := 99) rfl ?_
        exact p_zret (z_dec zd_X8_isWithin 37 rfl) rfl (Or.inl rfl) ⟨(by unfold f_X8_isWithin; rw [if_neg hs1_0, if_neg hs1_1, if_neg hs1_2, if_pos hs1_3, if_pos h86]), rfl, rfl⟩
      · refine p_iload_n (z_dec zd_X8_isWithin 31 rfl) rfl 1 rfl (n := 90) rfl ?_
        refine p_iconst (z_dec zd_X8_isWithin 32 rfl) (v := 3) (by decide) (n := 91) rfl ?_
        refine p_icmp_gt (z_dec zd_X8_isWithin 33 rfl) (t := 98) (by decide) (n := 94) rfl (fun h91 => ?_) (fun h91 => ?_)
        · refine p_iconst (z_dec zd_X8_isWithin 36 rfl) (v := 0) (by decide) (n := 99) rfl ?_
          exact p_zret (z_dec zd_X8_isWithin 37 rfl) rfl (Or.inl rfl) ⟨(by unfold f_X8_isWithin; rw [if_neg hs1_0, if_neg hs1_1, if_neg hs1_2, if_pos hs1_3, if_neg h86, if_pos h91]), rfl, rfl⟩
        · refine p_iconst (z_dec zd_X8_isWithin 34 rfl) (v := 1) (by decide) (n := 95) rfl ?_
          refine p_goto (z_dec zd_X8_isWithin 35 rfl) (t := 99) (by decide) ?_
          exact p_zret (z_dec zd_X8_isWithin 37 rfl) rfl (Or.inr rfl) ⟨(by unfold f_X8_isWithin; rw [if_neg hs1_0, if_neg hs1_1, if_neg hs1_2, if_pos hs1_3, if_neg h86, if_neg h91]), rfl, rfl⟩
    by_cases hs1_4 : what = 4
    · refine p_tableIn (z_dec zd_X8_isWithin 1 rfl) (off := 99) (t := 100) (by rw [hs1_4]; decide) (by rw [hs1_4]; decide) (by rw [hs1_4]; rfl) (by decide) ?_
      refine p_iload_n (z_dec zd_X8_isWithin 38 rfl) rfl 1 rfl (n := 101) rfl ?_
      refine p_if_lt (z_dec zd_X8_isWithin 39 rfl) (t := 114) (by decide) (n := 104) rfl (fun h101 => ?_) (fun h101 => ?_)
      · refine p_iconst (z_dec zd_X8_isWithin 45 rfl) (v := 0) (by decide) (n := 115) rfl ?_
        exact p_zret (z_dec zd_X8_isWithin 46 rfl) rfl (Or.inl rfl) ⟨(by unfold f_X8_isWithin; rw [if_neg hs1_0, if_neg hs1_1, if_neg hs1_2, if_neg hs1_3, if_pos hs1_4, if_pos h101]), rfl, rfl⟩
      · refine p_iload_n (z_dec zd_X8_isWithin 40 rfl) rfl 1 rfl (n := 105) rfl ?_
        refine p_bipush (z_dec zd_X8_isWithin 41 rfl) (v := 99) (by decide) (n := 107) rfl ?_
        refine p_icmp_gt (z_dec zd_X8_isWithin 42 rfl) (t := 114) (by decide) (n := 110) rfl (fun h107 => ?_) (fun h107 => ?_)
        · refine p_iconst (z_dec zd_X8_isWithin 45 rfl) (v := 0) (by decide) (n := 115) rfl ?_
          exact p_zret (z_dec zd_X8_isWithin 46 rfl) rfl (Or.inl rfl) ⟨(by unfold f_X8_isWithin; rw [if_neg hs1_0, if_neg hs1_1, if_neg hs1_2, if_neg hs1_3, if_pos hs1_4, if_neg h101, if_pos h107]), rfl, rfl⟩
        · refine p_iconst (z_dec zd_X8_isWithin 43 rfl) (v := 1) (by decide) (n := 111) rfl ?_
          refine p_goto (z_dec zd_X8_isWithin 44 rfl) (t := 115) (by decide) ?_
          exact p_zret (z_dec zd_X8_isWithin 46 rfl) rfl (Or.inr rfl) ⟨(by unfold f_X8_isWithin; rw [if_neg hs1_0, if_neg hs1_1, if_neg hs1_2, if_neg hs1_3, if_pos hs1_4, if_neg h101, if_neg h107]), rfl, rfl⟩
    have hs1_0n : ¬ what.toInt = 0 := lv_neT hs1_0 rfl
    have hs1_1n : ¬ what.toInt = 1 := lv_neT hs1_1 rfl
    have hs1_2n : ¬ what.toInt = 2 := lv_neT hs1_2 rfl
    have hs1_3n : ¬ what.toInt = 3 := lv_neT hs1_3 rfl
    have hs1_4n : ¬ what.toInt = 4 := lv_neT hs1_4 rfl
    refine p_tableOut (z_dec zd_X8_isWithin 1 rfl) (t := 116) (by omega) (by decide) ?_
    refine p_iload_n (z_dec zd_X8_isWithin 47 rfl) rfl 0 rfl (n := 117) rfl ?_
    refine p_iconst (z_dec zd_X8_isWithin 48 rfl) (v := 5) (by decide) (n := 118) rfl ?_
    refine p_icmp_ne (z_dec zd_X8_isWithin 49 rfl) (t := 125) (by decide) (n := 121) rfl (fun h118 => ?_) (fun h118 => ?_)
    · refine p_iconst (z_dec zd_X8_isWithin 52 rfl) (v := 0) (by decide) (n := 126) rfl ?_
      exact p_zret (z_dec zd_X8_isWithin 53 rfl) rfl (Or.inl rfl) ⟨(by unfold f_X8_isWithin; rw [if_neg hs1_0, if_neg hs1_1, if_neg hs1_2, if_neg hs1_3, if_neg hs1_4, if_neg h118]), rfl, rfl⟩
    · refine p_iconst (z_dec zd_X8_isWithin 50 rfl) (v := 1) (by decide) (n := 122) rfl ?_
      refine p_goto (z_dec zd_X8_isWithin 51 rfl) (t := 126) (by decide) ?_
      exact p_zret (z_dec zd_X8_isWithin 53 rfl) rfl (Or.inr rfl) ⟨(by unfold f_X8_isWithin; rw [if_neg hs1_0, if_neg hs1_1, if_neg hs1_2, if_neg hs1_3, if_neg hs1_4, if_pos h118]), rfl, rfl⟩
  exact hentry
theorem fb_X8_isWithin (what : Int32) (v : Int32) : f_X8_isWithin what v = 0 ∨ f_X8_isWithin what v = 1 := by
  unfold f_X8_isWithin
  (repeat' split) <;> first | exact Or.inl rfl | exact Or.inr rfl
theorem z_shc {x : Int32} (h : ¬ f_X8_isShelf x = 0) : x = nI x.toNatClampNeg ∧ x.toNatClampNeg < 6 := by
  unfold f_X8_isShelf at h
  by_cases h1 : x < 0
  · rw [if_pos h1] at h; exact absurd rfl h
  · rw [if_neg h1] at h
    by_cases h2 : 6 ≤ x
    · rw [if_pos h2] at h; exact absurd rfl h
    · exact z_inN (N := 6) h1 h2 (by omega)
theorem z_remO (I : Nat → Nat → Int32) (dn : Nat) (nu wh wa be : Int32) {a : Nat} (j : Nat) (h : a < 33 ∨ 37 < a) : m_X0_remember I dn nu wh wa be a j = I a j := by
  have e1 : a ≠ 33 := by omega
  have e2 : a ≠ 34 := by omega
  have e3 : a ≠ 35 := by omega
  have e4 : a ≠ 36 := by omega
  have e5 : a ≠ 37 := by omega
  unfold m_X0_remember m_X0_forgetOldest
  split <;> simp [z_up, z_ro, e1, e2, e3, e4, e5]
theorem z_edO (I : Nat → Nat → Int32) (k np : Nat) : m_X7_endDay I k np k 0 = I k 0 := by
  unfold m_X7_endDay
  rw [z_up_j _ _ (by decide)]
  exact gi_X7_endDay_2_k_0 I k np
def f_X8_isThree (I : Nat → Nat → Int32) (abu : Int32) : Int32 := if abu < 0 then 0 else if 999 < abu then 0 else if (f_X7_areUnlike I 1 (abu / 100) ((abu / 10) - (abu / 10) / 10 * 10) (abu - abu / 10 * 10)) = 0 then 0 else 1
set_option maxHeartbeats 4000000 in
set_option maxRecDepth 100000 in
theorem c_X8_isThree (d : Nat) (hd : 2 ≤ d) (b : Bool) (I : Nat → Nat → Int32) (L : Nat → Nat → Int64) (abu : Int32) : z_CT zm_X8_isThree d [.ref 0, .int abu] SH (I, L, z_R b) 0 0 (z_ret (some (.int (f_X8_isThree I abu))) (I, L, z_R b)) := by
  refine z_enter (by decide +kernel) (Nat.le_of_ble_eq_true rfl) ?_
  have hentry : PW zm_X8_isThree d 0 [(0, .ref 0), (1, .int abu)] [] SH (I, L, z_R b) 0 0 (z_ret (some (.int (f_X8_isThree I abu))) (I, L, z_R b)) := by
    refine p_iload_n (z_dec zd_X8_isThree 0 rfl) rfl 1 rfl (n := 1) rfl ?_
    refine p_if_lt (z_dec zd_X8_isThree 1 rfl) (t := 40) (by decide) (n := 4) rfl (fun h1 => ?_) (fun h1 => ?_)
    · refine p_iconst (z_dec zd_X8_isThree 22 rfl) (v := 0) (by decide) (n := 41) rfl ?_
      exact p_zret (z_dec zd_X8_isThree 23 rfl) rfl (Or.inl rfl) ⟨(by unfold f_X8_isThree; rw [if_pos h1]), rfl, rfl⟩
    · refine p_iload_n (z_dec zd_X8_isThree 2 rfl) rfl 1 rfl (n := 5) rfl ?_
      refine p_sipush (z_dec zd_X8_isThree 3 rfl) (v := 999) (by decide) (n := 8) rfl ?_
      refine p_icmp_gt (z_dec zd_X8_isThree 4 rfl) (t := 40) (by decide) (n := 11) rfl (fun h8 => ?_) (fun h8 => ?_)
      · refine p_iconst (z_dec zd_X8_isThree 22 rfl) (v := 0) (by decide) (n := 41) rfl ?_
        exact p_zret (z_dec zd_X8_isThree 23 rfl) rfl (Or.inl rfl) ⟨(by unfold f_X8_isThree; rw [if_neg h1, if_pos h8]), rfl, rfl⟩
      · refine p_aload_n (z_dec zd_X8_isThree 5 rfl) rfl 0 rfl (n := 12) rfl ?_
        refine q_getR (z_dec zd_X8_isThree 6 rfl) zf_X8_10 (i := 1) rfl rfl (n := 15) rfl ?_
        refine p_iload_n (z_dec zd_X8_isThree 7 rfl) rfl 1 rfl (n := 16) rfl ?_
        refine p_bipush (z_dec zd_X8_isThree 8 rfl) (v := 100) (by decide) (n := 18) rfl ?_
        refine p_idiv (z_dec zd_X8_isThree 9 rfl) (by decide) (n := 19) rfl ?_
        refine p_iload_n (z_dec zd_X8_isThree 10 rfl) rfl 1 rfl (n := 20) rfl ?_
        refine p_bipush (z_dec zd_X8_isThree 11 rfl) (v := 10) (by decide) (n := 22) rfl ?_
        refine p_idiv (z_dec zd_X8_isThree 12 rfl) (by decide) (n := 23) rfl ?_
        refine p_bipush (z_dec zd_X8_isThree 13 rfl) (v := 10) (by decide) (n := 25) rfl ?_
        refine p_irem (z_dec zd_X8_isThree 14 rfl) (by decide) (n := 26) rfl ?_
        refine p_iload_n (z_dec zd_X8_isThree 15 rfl) rfl 1 rfl (n := 27) rfl ?_
        refine p_bipush (z_dec zd_X8_isThree 16 rfl) (v := 10) (by decide) (n := 29) rfl ?_
        refine p_irem (z_dec zd_X8_isThree 17 rfl) (by decide) (n := 30) rfl ?_
        refine q_callV (As := [.int (abu / 100), .int ((abu / 10) - (abu / 10) / 10 * 10), .int (abu - abu / 10 * 10)]) (rest := []) (z_dec zd_X8_isThree 18 rfl) zk_X8_337 zv_X7_areUnlike (c_X7_areUnlike (d - 1) (by omega) b I L 1 (z_Yd1 b) (abu / 100) ((abu / 10) - (abu / 10) / 10 * 10) (abu - abu / 10 * 10)) rfl ⟨_, _, rfl⟩ rfl rfl (Nat.le_of_ble_eq_true rfl) (by omega) (n := 33) rfl ?_
        show PW zm_X8_isThree d 33 [(0, .ref 0), (1, .int abu)] [.int (f_X7_areUnlike I 1 (abu / 100) ((abu / 10) - (abu / 10) / 10 * 10) (abu - abu / 10 * 10))] SH (I, L, z_R b) 0 0 _
        refine p_if_eq (z_dec zd_X8_isThree 19 rfl) (t := 40) (by decide) (n := 36) rfl (fun h33 => ?_) (fun h33 => ?_)
        · refine p_iconst (z_dec zd_X8_isThree 22 rfl) (v := 0) (by decide) (n := 41) rfl ?_
          exact p_zret (z_dec zd_X8_isThree 23 rfl) rfl (Or.inl rfl) ⟨(by unfold f_X8_isThree; rw [if_neg h1, if_neg h8, if_pos h33]), rfl, rfl⟩
        · refine p_iconst (z_dec zd_X8_isThree 20 rfl) (v := 1) (by decide) (n := 37) rfl ?_
          refine p_goto (z_dec zd_X8_isThree 21 rfl) (t := 41) (by decide) ?_
          exact p_zret (z_dec zd_X8_isThree 23 rfl) rfl (Or.inr rfl) ⟨(by unfold f_X8_isThree; rw [if_neg h1, if_neg h8, if_neg h33]), rfl, rfl⟩
  exact hentry
theorem fb_X8_isThree (I : Nat → Nat → Int32) (abu : Int32) : f_X8_isThree I abu = 0 ∨ f_X8_isThree I abu = 1 := by
  unfold f_X8_isThree
  (repeat' split) <;> first | exact Or.inl rfl | exact Or.inr rfl
def f_X8_isNumber (I : Nat → Nat → Int32) (number : Int32) (what : Int32) : Int32 := if what = 4 then if number = 0 then 1 else 0 else if what = 5 then if number = 0 then 1 else 0 else if what < 0 then 0 else if 3 < what then 0 else if (f_X7_has I 1 number) = 0 then 0 else 1
set_option maxHeartbeats 4000000 in
set_option maxRecDepth 100000 in
theorem c_X8_isNumber (d : Nat) (hd : 1 ≤ d) (b : Bool) (I : Nat → Nat → Int32) (L : Nat → Nat → Int64) (number : Int32) (what : Int32) : z_CT zm_X8_isNumber d [.ref 0, .int number, .int what] SH (I, L, z_R b) 0 0 (z_ret (some (.int (f_X8_isNumber I number what))) (I, L, z_R b)) := by
  refine z_enter (by decide +kernel) (Nat.le_of_ble_eq_true rfl) ?_
  have hentry : PW zm_X8_isNumber d 0 [(0, .ref 0), (1, .int number), (2, .int what)] [] SH (I, L, z_R b) 0 0 (z_ret (some (.int (f_X8_isNumber I number what))) (I, L, z_R b)) := by
    refine p_iload_n (z_dec zd_X8_isNumber 0 rfl) rfl 2 rfl (n := 1) rfl ?_
    refine p_iconst (z_dec zd_X8_isNumber 1 rfl) (v := 4) (by decide) (n := 2) rfl ?_
    refine p_icmp_eq (z_dec zd_X8_isNumber 2 rfl) (t := 10) (by decide) (n := 5) rfl (fun h2 => ?_) (fun h2 => ?_)
    · refine p_iload_n (z_dec zd_X8_isNumber 6 rfl) rfl 1 rfl (n := 11) rfl ?_
      refine p_if_ne (z_dec zd_X8_isNumber 7 rfl) (t := 18) (by decide) (n := 14) rfl (fun h11 => ?_) (fun h11 => ?_)
      · refine p_iconst (z_dec zd_X8_isNumber 10 rfl) (v := 0) (by decide) (n := 19) rfl ?_
        exact p_zret (z_dec zd_X8_isNumber 11 rfl) rfl (Or.inl rfl) ⟨(by unfold f_X8_isNumber; rw [if_pos h2, if_neg h11]), rfl, rfl⟩
      · refine p_iconst (z_dec zd_X8_isNumber 8 rfl) (v := 1) (by decide) (n := 15) rfl ?_
        refine p_goto (z_dec zd_X8_isNumber 9 rfl) (t := 19) (by decide) ?_
        exact p_zret (z_dec zd_X8_isNumber 11 rfl) rfl (Or.inr rfl) ⟨(by unfold f_X8_isNumber; rw [if_pos h2, if_pos h11]), rfl, rfl⟩
    · refine p_iload_n (z_dec zd_X8_isNumber 3 rfl) rfl 2 rfl (n := 6) rfl ?_
      refine p_iconst (z_dec zd_X8_isNumber 4 rfl) (v := 5) (by decide) (n := 7) rfl ?_
      refine p_icmp_ne (z_dec zd_X8_isNumber 5 rfl) (t := 20) (by decide) (n := 10) rfl (fun h7 => ?_) (fun h7 => ?_)
      · refine p_iload_n (z_dec zd_X8_isNumber 12 rfl) rfl 2 rfl (n := 21) rfl ?_
        refine p_if_lt (z_dec zd_X8_isNumber 13 rfl) (t := 44) (by decide) (n := 24) rfl (fun h21 => ?_) (fun h21 => ?_)
        · refine p_iconst (z_dec zd_X8_isNumber 24 rfl) (v := 0) (by decide) (n := 45) rfl ?_
          exact p_zret (z_dec zd_X8_isNumber 25 rfl) rfl (Or.inl rfl) ⟨(by unfold f_X8_isNumber; rw [if_neg h2, if_neg h7, if_pos h21]), rfl, rfl⟩
        · refine p_iload_n (z_dec zd_X8_isNumber 14 rfl) rfl 2 rfl (n := 25) rfl ?_
          refine p_iconst (z_dec zd_X8_isNumber 15 rfl) (v := 3) (by decide) (n := 26) rfl ?_
          refine p_icmp_gt (z_dec zd_X8_isNumber 16 rfl) (t := 44) (by decide) (n := 29) rfl (fun h26 => ?_) (fun h26 => ?_)
          · refine p_iconst (z_dec zd_X8_isNumber 24 rfl) (v := 0) (by decide) (n := 45) rfl ?_
            exact p_zret (z_dec zd_X8_isNumber 25 rfl) rfl (Or.inl rfl) ⟨(by unfold f_X8_isNumber; rw [if_neg h2, if_neg h7, if_neg h21, if_pos h26]), rfl, rfl⟩
          · refine p_aload_n (z_dec zd_X8_isNumber 17 rfl) rfl 0 rfl (n := 30) rfl ?_
            refine q_getR (z_dec zd_X8_isNumber 18 rfl) zf_X8_10 (i := 1) rfl rfl (n := 33) rfl ?_
            refine p_iload_n (z_dec zd_X8_isNumber 19 rfl) rfl 1 rfl (n := 34) rfl ?_
            refine q_callV (As := [.int number]) (rest := []) (z_dec zd_X8_isNumber 20 rfl) zk_X8_133 zv_X7_has (c_X7_has (d - 1) (by omega) b I L 1 (z_Yd1 b) number) rfl ⟨_, _, rfl⟩ rfl rfl (Nat.le_of_ble_eq_true rfl) (by omega) (n := 37) rfl ?_
            show PW zm_X8_isNumber d 37 [(0, .ref 0), (1, .int number), (2, .int what)] [.int (f_X7_has I 1 number)] SH (I, L, z_R b) 0 0 _
            refine p_if_eq (z_dec zd_X8_isNumber 21 rfl) (t := 44) (by decide) (n := 40) rfl (fun h37 => ?_) (fun h37 => ?_)
            · refine p_iconst (z_dec zd_X8_isNumber 24 rfl) (v := 0) (by decide) (n := 45) rfl ?_
              exact p_zret (z_dec zd_X8_isNumber 25 rfl) rfl (Or.inl rfl) ⟨(by unfold f_X8_isNumber; rw [if_neg h2, if_neg h7, if_neg h21, if_neg h26, if_pos h37]), rfl, rfl⟩
            · refine p_iconst (z_dec zd_X8_isNumber 22 rfl) (v := 1) (by decide) (n := 41) rfl ?_
              refine p_goto (z_dec zd_X8_isNumber 23 rfl) (t := 45) (by decide) ?_
              exact p_zret (z_dec zd_X8_isNumber 25 rfl) rfl (Or.inr rfl) ⟨(by unfold f_X8_isNumber; rw [if_neg h2, if_neg h7, if_neg h21, if_neg h26, if_neg h37]), rfl, rfl⟩
      · refine p_iload_n (z_dec zd_X8_isNumber 6 rfl) rfl 1 rfl (n := 11) rfl ?_
        refine p_if_ne (z_dec zd_X8_isNumber 7 rfl) (t := 18) (by decide) (n := 14) rfl (fun h11 => ?_) (fun h11 => ?_)
        · refine p_iconst (z_dec zd_X8_isNumber 10 rfl) (v := 0) (by decide) (n := 19) rfl ?_
          exact p_zret (z_dec zd_X8_isNumber 11 rfl) rfl (Or.inl rfl) ⟨(by unfold f_X8_isNumber; rw [if_neg h2, if_pos h7, if_neg h11]), rfl, rfl⟩
        · refine p_iconst (z_dec zd_X8_isNumber 8 rfl) (v := 1) (by decide) (n := 15) rfl ?_
          refine p_goto (z_dec zd_X8_isNumber 9 rfl) (t := 19) (by decide) ?_
          exact p_zret (z_dec zd_X8_isNumber 11 rfl) rfl (Or.inr rfl) ⟨(by unfold f_X8_isNumber; rw [if_neg h2, if_pos h7, if_pos h11]), rfl, rfl⟩
  exact hentry
theorem fb_X8_isNumber (I : Nat → Nat → Int32) (number : Int32) (what : Int32) : f_X8_isNumber I number what = 0 ∨ f_X8_isNumber I number what = 1 := by
  unfold f_X8_isNumber
  (repeat' split) <;> first | exact Or.inl rfl | exact Or.inr rfl
def f_X8_bytesRefusal (I : Nat → Nat → Int32) (sh : Int32) : Int32 := if (f_X8_isShelf sh) = 0 then (-1) else if (I (42 + 2 * sh.toNatClampNeg) 0) = (-1) then (-11) else if (I (42 + 2 * sh.toNatClampNeg) 0) = 0 then 0 else (-12)
set_option maxHeartbeats 4000000 in
set_option maxRecDepth 100000 in
theorem c_X8_bytesRefusal (d : Nat) (hd : 1 ≤ d) (b : Bool) (I : Nat → Nat → Int32) (L : Nat → Nat → Int64) (sh : Int32) : z_CT zm_X8_bytesRefusal d [.ref 0, .int sh] SH (I, L, z_R b) 0 0 (z_ret (some (.int (f_X8_bytesRefusal I sh))) (I, L, z_R b)) := by
  refine z_enter (by decide +kernel) (Nat.le_of_ble_eq_true rfl) ?_
  have hentry : PW zm_X8_bytesRefusal d 0 [(0, .ref 0), (1, .int sh)] [] SH (I, L, z_R b) 0 0 (z_ret (some (.int (f_X8_bytesRefusal I sh))) (I, L, z_R b)) := by
    refine p_iload_n (z_dec zd_X8_bytesRefusal 0 rfl) rfl 1 rfl (n := 1) rfl ?_
    refine q_callS (As := [.int sh]) (rest := []) (z_dec zd_X8_bytesRefusal 1 rfl) zk_X8_80 zs_X8_isShelf (c_X8_isShelf (d - 1) (by omega) b I L sh) rfl rfl (Nat.le_of_ble_eq_true rfl) (by omega) (n := 4) rfl ?_
    show PW zm_X8_bytesRefusal d 4 [(0, .ref 0), (1, .int sh)] [.int (f_X8_isShelf sh)] SH (I, L, z_R b) 0 0 _
    refine p_if_ne (z_dec zd_X8_bytesRefusal 2 rfl) (t := 9) (by decide) (n := 7) rfl (fun h4 => ?_) (fun h4 => ?_)
    · have hj_sh := z_shc h4
      refine p_aload_n (z_dec zd_X8_bytesRefusal 5 rfl) rfl 0 rfl (n := 10) rfl ?_
      refine q_getR (z_dec zd_X8_bytesRefusal 6 rfl) zf_X8_67 (i := 41) rfl rfl (n := 13) rfl ?_
      refine p_iload_n (z_dec zd_X8_bytesRefusal 7 rfl) rfl 1 rfl (n := 14) rfl ?_
      refine q_aald (z_dec zd_X8_bytesRefusal 8 rfl) rfl (by decide) (sh.toNatClampNeg) hj_sh.1 hj_sh.2 (a := (42 + 2 * sh.toNatClampNeg)) (if_pos hj_sh.2) (n := 15) rfl ?_
      refine q_getI (z_dec zd_X8_bytesRefusal 9 rfl) zf_X8_84 (by decide) (z_SfOf b _ hj_sh.2).1 (v := (I (42 + 2 * sh.toNatClampNeg) 0)) rfl (n := 18) rfl ?_
      refine p_istore_n (z_dec zd_X8_bytesRefusal 10 rfl) rfl (lv2 := [(2, .int (I (42 + 2 * sh.toNatClampNeg) 0)), (0, .ref 0), (1, .int sh)]) (by decide) rfl (n := 19) rfl ?_
      refine p_iload_n (z_dec zd_X8_bytesRefusal 11 rfl) rfl 0 rfl (n := 20) rfl ?_
      refine p_iconst (z_dec zd_X8_bytesRefusal 12 rfl) (v := (-1)) (by decide) (n := 21) rfl ?_
      refine p_icmp_ne (z_dec zd_X8_bytesRefusal 13 rfl) (t := 27) (by decide) (n := 24) rfl (fun h21 => ?_) (fun h21 => ?_)
      · refine p_iload_n (z_dec zd_X8_bytesRefusal 16 rfl) rfl 0 rfl (n := 28) rfl ?_
        refine p_if_ne (z_dec zd_X8_bytesRefusal 17 rfl) (t := 35) (by decide) (n := 31) rfl (fun h28 => ?_) (fun h28 => ?_)
        · refine p_bipush (z_dec zd_X8_bytesRefusal 20 rfl) (v := (-12)) (by decide) (n := 37) rfl ?_
          exact p_iret (z_dec zd_X8_bytesRefusal 21 rfl) rfl ⟨(by unfold f_X8_bytesRefusal; rw [if_neg h4, if_neg h21, if_neg h28]), rfl, rfl⟩
        · refine p_iconst (z_dec zd_X8_bytesRefusal 18 rfl) (v := 0) (by decide) (n := 32) rfl ?_
          refine p_goto (z_dec zd_X8_bytesRefusal 19 rfl) (t := 37) (by decide) ?_
          exact p_iret (z_dec zd_X8_bytesRefusal 21 rfl) rfl ⟨(by unfold f_X8_bytesRefusal; rw [if_neg h4, if_neg h21, if_pos h28]), rfl, rfl⟩
      · refine p_bipush (z_dec zd_X8_bytesRefusal 14 rfl) (v := (-11)) (by decide) (n := 26) rfl ?_
        exact p_iret (z_dec zd_X8_bytesRefusal 15 rfl) rfl ⟨(by unfold f_X8_bytesRefusal; rw [if_neg h4, if_pos h21]), rfl, rfl⟩
    · refine p_iconst (z_dec zd_X8_bytesRefusal 3 rfl) (v := (-1)) (by decide) (n := 8) rfl ?_
      exact p_iret (z_dec zd_X8_bytesRefusal 4 rfl) rfl ⟨(by unfold f_X8_bytesRefusal; rw [if_pos h4]), rfl, rfl⟩
  exact hentry
def f_X8_placeRefusal (I : Nat → Nat → Int32) (sh : Int32) (i : Int32) : Int32 := if (f_X8_isShelf sh) = 0 then (-1) else if (I (42 + 2 * sh.toNatClampNeg) 0) = (-1) then (-11) else if (f_X4_holdsRow I (42 + 2 * sh.toNatClampNeg)) = 0 then (-12) else if (f_X4_hasPlaces I (42 + 2 * sh.toNatClampNeg) i 1) = 0 then (-13) else 0
set_option maxHeartbeats 4000000 in
set_option maxRecDepth 100000 in
theorem c_X8_placeRefusal (d : Nat) (hd : 1 ≤ d) (b : Bool) (I : Nat → Nat → Int32) (L : Nat → Nat → Int64) (sh : Int32) (i : Int32) : z_CT zm_X8_placeRefusal d [.ref 0, .int sh, .int i] SH (I, L, z_R b) 0 0 (z_ret (some (.int (f_X8_placeRefusal I sh i))) (I, L, z_R b)) := by
  refine z_enter (by decide +kernel) (Nat.le_of_ble_eq_true rfl) ?_
  have hentry : PW zm_X8_placeRefusal d 0 [(0, .ref 0), (1, .int sh), (2, .int i)] [] SH (I, L, z_R b) 0 0 (z_ret (some (.int (f_X8_placeRefusal I sh i))) (I, L, z_R b)) := by
    refine p_iload_n (z_dec zd_X8_placeRefusal 0 rfl) rfl 1 rfl (n := 1) rfl ?_
    refine q_callS (As := [.int sh]) (rest := []) (z_dec zd_X8_placeRefusal 1 rfl) zk_X8_80 zs_X8_isShelf (c_X8_isShelf (d - 1) (by omega) b I L sh) rfl rfl (Nat.le_of_ble_eq_true rfl) (by omega) (n := 4) rfl ?_
    show PW zm_X8_placeRefusal d 4 [(0, .ref 0), (1, .int sh), (2, .int i)] [.int (f_X8_isShelf sh)] SH (I, L, z_R b) 0 0 _
    refine p_if_ne (z_dec zd_X8_placeRefusal 2 rfl) (t := 9) (by decide) (n := 7) rfl (fun h4 => ?_) (fun h4 => ?_)
    · have hj_sh := z_shc h4
      refine p_aload_n (z_dec zd_X8_placeRefusal 5 rfl) rfl 0 rfl (n := 10) rfl ?_
      refine q_getR (z_dec zd_X8_placeRefusal 6 rfl) zf_X8_67 (i := 41) rfl rfl (n := 13) rfl ?_
      refine p_iload_n (z_dec zd_X8_placeRefusal 7 rfl) rfl 1 rfl (n := 14) rfl ?_
      refine q_aald (z_dec zd_X8_placeRefusal 8 rfl) rfl (by decide) (sh.toNatClampNeg) hj_sh.1 hj_sh.2 (a := (42 + 2 * sh.toNatClampNeg)) (if_pos hj_sh.2) (n := 15) rfl ?_
      refine p_astore_n (z_dec zd_X8_placeRefusal 9 rfl) rfl (lv2 := [(3, .ref (42 + 2 * sh.toNatClampNeg)), (0, .ref 0), (1, .int sh), (2, .int i)]) (by decide) rfl (n := 16) rfl ?_
      refine p_aload_n (z_dec zd_X8_placeRefusal 10 rfl) rfl 0 rfl (n := 17) rfl ?_
      refine q_getI (z_dec zd_X8_placeRefusal 11 rfl) zf_X8_84 (by decide) (z_SfOf b _ hj_sh.2).1 (v := (I (42 + 2 * sh.toNatClampNeg) 0)) rfl (n := 20) rfl ?_
      refine p_iconst (z_dec zd_X8_placeRefusal 12 rfl) (v := (-1)) (by decide) (n := 21) rfl ?_
      refine p_icmp_ne (z_dec zd_X8_placeRefusal 13 rfl) (t := 27) (by decide) (n := 24) rfl (fun h21 => ?_) (fun h21 => ?_)
      · refine p_aload_n (z_dec zd_X8_placeRefusal 16 rfl) rfl 0 rfl (n := 28) rfl ?_
        refine q_callV (As := []) (rest := []) (z_dec zd_X8_placeRefusal 17 rfl) zk_X8_301 zv_X4_holdsRow (c_X4_holdsRow (d - 1) (by omega) b I L (42 + 2 * sh.toNatClampNeg) (z_SfOf b _ hj_sh.2)) (z_SfOf b _ hj_sh.2).1 ⟨_, _, rfl⟩ rfl rfl (Nat.le_of_ble_eq_true rfl) (by omega) (n := 31) rfl ?_
        show PW zm_X8_placeRefusal d 31 [(3, .ref (42 + 2 * sh.toNatClampNeg)), (0, .ref 0), (1, .int sh), (2, .int i)] [.int (f_X4_holdsRow I (42 + 2 * sh.toNatClampNeg))] SH (I, L, z_R b) 0 0 _
        refine p_if_ne (z_dec zd_X8_placeRefusal 18 rfl) (t := 37) (by decide) (n := 34) rfl (fun h31 => ?_) (fun h31 => ?_)
        · refine p_aload_n (z_dec zd_X8_placeRefusal 21 rfl) rfl 0 rfl (n := 38) rfl ?_
          refine p_iload_n (z_dec zd_X8_placeRefusal 22 rfl) rfl 3 rfl (n := 39) rfl ?_
          refine p_iconst (z_dec zd_X8_placeRefusal 23 rfl) (v := 1) (by decide) (n := 40) rfl ?_
          refine q_callV (As := [.int i, .int 1]) (rest := []) (z_dec zd_X8_placeRefusal 24 rfl) zk_X8_304 zv_X4_hasPlaces (c_X4_hasPlaces (d - 1) (by omega) b I L (42 + 2 * sh.toNatClampNeg) (z_SfOf b _ hj_sh.2) i 1) (z_SfOf b _ hj_sh.2).1 ⟨_, _, rfl⟩ rfl rfl (Nat.le_of_ble_eq_true rfl) (by omega) (n := 43) rfl ?_
          show PW zm_X8_placeRefusal d 43 [(3, .ref (42 + 2 * sh.toNatClampNeg)), (0, .ref 0), (1, .int sh), (2, .int i)] [.int (f_X4_hasPlaces I (42 + 2 * sh.toNatClampNeg) i 1)] SH (I, L, z_R b) 0 0 _
          refine p_if_eq (z_dec zd_X8_placeRefusal 25 rfl) (t := 50) (by decide) (n := 46) rfl (fun h43 => ?_) (fun h43 => ?_)
          · refine p_bipush (z_dec zd_X8_placeRefusal 28 rfl) (v := (-13)) (by decide) (n := 52) rfl ?_
            exact p_iret (z_dec zd_X8_placeRefusal 29 rfl) rfl ⟨(by unfold f_X8_placeRefusal; rw [if_neg h4, if_neg h21, if_neg h31, if_pos h43]), rfl, rfl⟩
          · refine p_iconst (z_dec zd_X8_placeRefusal 26 rfl) (v := 0) (by decide) (n := 47) rfl ?_
            refine p_goto (z_dec zd_X8_placeRefusal 27 rfl) (t := 52) (by decide) ?_
            exact p_iret (z_dec zd_X8_placeRefusal 29 rfl) rfl ⟨(by unfold f_X8_placeRefusal; rw [if_neg h4, if_neg h21, if_neg h31, if_neg h43]), rfl, rfl⟩
        · refine p_bipush (z_dec zd_X8_placeRefusal 19 rfl) (v := (-12)) (by decide) (n := 36) rfl ?_
          exact p_iret (z_dec zd_X8_placeRefusal 20 rfl) rfl ⟨(by unfold f_X8_placeRefusal; rw [if_neg h4, if_neg h21, if_pos h31]), rfl, rfl⟩
      · refine p_bipush (z_dec zd_X8_placeRefusal 14 rfl) (v := (-11)) (by decide) (n := 26) rfl ?_
        exact p_iret (z_dec zd_X8_placeRefusal 15 rfl) rfl ⟨(by unfold f_X8_placeRefusal; rw [if_neg h4, if_pos h21]), rfl, rfl⟩
    · refine p_iconst (z_dec zd_X8_placeRefusal 3 rfl) (v := (-1)) (by decide) (n := 8) rfl ?_
      exact p_iret (z_dec zd_X8_placeRefusal 4 rfl) rfl ⟨(by unfold f_X8_placeRefusal; rw [if_pos h4]), rfl, rfl⟩
  exact hentry
def f_X8_player (I : Nat → Nat → Int32) (np : Nat) (skill : Int32) : Int32 := if (f_X8_isWithin 0 skill) = 0 then (-1) else (f_X7_join I 1 np skill 0 0)
def m_X8_player (I : Nat → Nat → Int32) (np : Nat) (skill : Int32) : Nat → Nat → Int32 := if (f_X8_isWithin 0 skill) = 0 then I else (m_X7_join I 1 np skill 0 0)
set_option maxHeartbeats 4000000 in
set_option maxRecDepth 100000 in
theorem c_X8_player (d : Nat) (hd : 2 ≤ d) (b : Bool) (I : Nat → Nat → Int32) (L : Nat → Nat → Int64) (np : Nat) (hnp : I 1 0 = nI np) (hn10 : np ≤ 10) (skill : Int32) : z_CT zm_X8_player d [.ref 0, .int skill] SH (I, L, z_R b) 0 0 (z_ret (some (.int (f_X8_player I np skill))) ((m_X8_player I np skill), L, z_R b)) := by
  refine z_enter (by decide +kernel) (Nat.le_of_ble_eq_true rfl) ?_
  have hentry : PW zm_X8_player d 0 [(0, .ref 0), (1, .int skill)] [] SH (I, L, z_R b) 0 0 (z_ret (some (.int (f_X8_player I np skill))) ((m_X8_player I np skill), L, z_R b)) := by
    refine p_iconst (z_dec zd_X8_player 0 rfl) (v := 0) (by decide) (n := 1) rfl ?_
    refine p_iload_n (z_dec zd_X8_player 1 rfl) rfl 1 rfl (n := 2) rfl ?_
    refine q_callS (As := [.int 0, .int skill]) (rest := []) (z_dec zd_X8_player 2 rfl) zk_X8_72 zs_X8_isWithin (c_X8_isWithin (d - 1) (by omega) b I L 0 skill) rfl rfl (Nat.le_of_ble_eq_true rfl) (by omega) (n := 5) rfl ?_
    show PW zm_X8_player d 5 [(0, .ref 0), (1, .int skill)] [.int (f_X8_isWithin 0 skill)] SH (I, L, z_R b) 0 0 _
    refine p_if_eq (z_dec zd_X8_player 3 rfl) (t := 21) (by decide) (n := 8) rfl (fun h5 => ?_) (fun h5 => ?_)
    · refine p_iconst (z_dec zd_X8_player 11 rfl) (v := (-1)) (by decide) (n := 22) rfl ?_
      exact p_iret (z_dec zd_X8_player 12 rfl) rfl ⟨(by unfold f_X8_player; rw [if_pos h5]), rfl, (z_3 (by unfold m_X8_player; rw [if_pos h5]) rfl)⟩
    · refine p_aload_n (z_dec zd_X8_player 4 rfl) rfl 0 rfl (n := 9) rfl ?_
      refine q_getR (z_dec zd_X8_player 5 rfl) zf_X8_10 (i := 1) rfl rfl (n := 12) rfl ?_
      refine p_iload_n (z_dec zd_X8_player 6 rfl) rfl 1 rfl (n := 13) rfl ?_
      refine p_iconst (z_dec zd_X8_player 7 rfl) (v := 0) (by decide) (n := 14) rfl ?_
      refine p_iconst (z_dec zd_X8_player 8 rfl) (v := 0) (by decide) (n := 15) rfl ?_
      refine q_callV (As := [.int skill, .int 0, .int 0]) (rest := []) (z_dec zd_X8_player 9 rfl) zk_X8_76 zv_X7_join (c_X7_join (d - 1) (by omega) b I L 1 (z_Yd1 b) np hnp hn10 skill 0 0) rfl ⟨_, _, rfl⟩ rfl rfl (Nat.le_of_ble_eq_true rfl) (by omega) (n := 18) rfl ?_
      show PW zm_X8_player d 18 [(0, .ref 0), (1, .int skill)] [.int (f_X7_join I 1 np skill 0 0)] SH ((m_X7_join I 1 np skill 0 0), L, z_R b) 0 0 _
      refine p_goto (z_dec zd_X8_player 10 rfl) (t := 22) (by decide) ?_
      exact p_iret (z_dec zd_X8_player 12 rfl) rfl ⟨(by unfold f_X8_player; rw [if_neg h5]), rfl, (z_3 (by unfold m_X8_player; rw [if_neg h5]) rfl)⟩
  exact hentry
def f_X8_of (I : Nat → Nat → Int32) (number : Int32) (what : Int32) : Int32 := if (f_X8_isNumber I number what) = 0 then (-2000000000) else (f_X7_numberOf I 1 number what)
set_option maxHeartbeats 4000000 in
set_option maxRecDepth 100000 in
theorem c_X8_of (d : Nat) (hd : 2 ≤ d) (b : Bool) (I : Nat → Nat → Int32) (L : Nat → Nat → Int64) (np : Nat) (hnp : I 1 0 = nI np) (hn10 : np ≤ 10) (number : Int32) (what : Int32) : z_CT zm_X8_of d [.ref 0, .int number, .int what] SH (I, L, z_R b) 0 0 (z_ret (some (.int (f_X8_of I number what))) (I, L, z_R b)) := by
  refine z_enter (by decide +kernel) (Nat.le_of_ble_eq_true rfl) ?_
  have hentry : PW zm_X8_of d 0 [(0, .ref 0), (1, .int number), (2, .int what)] [] SH (I, L, z_R b) 0 0 (z_ret (some (.int (f_X8_of I number what))) (I, L, z_R b)) := by
    refine p_aload_n (z_dec zd_X8_of 0 rfl) rfl 0 rfl (n := 1) rfl ?_
    refine p_iload_n (z_dec zd_X8_of 1 rfl) rfl 1 rfl (n := 2) rfl ?_
    refine p_iload_n (z_dec zd_X8_of 2 rfl) rfl 2 rfl (n := 3) rfl ?_
    refine q_callV (As := [.int number, .int what]) (rest := []) (z_dec zd_X8_of 3 rfl) zk_X8_99 zv_X8_isNumber (c_X8_isNumber (d - 1) (by omega) b I L number what) rfl ⟨_, _, rfl⟩ rfl rfl (Nat.le_of_ble_eq_true rfl) (by omega) (n := 6) rfl ?_
    show PW zm_X8_of d 6 [(0, .ref 0), (1, .int number), (2, .int what)] [.int (f_X8_isNumber I number what)] SH (I, L, z_R b) 0 0 _
    refine p_if_eq (z_dec zd_X8_of 4 rfl) (t := 21) (by decide) (n := 9) rfl (fun h6 => ?_) (fun h6 => ?_)
    · refine p_ldc (z_dec zd_X8_of 11 rfl) zq_X8_102 (n := 23) rfl ?_
      exact p_iret (z_dec zd_X8_of 12 rfl) rfl ⟨(by unfold f_X8_of; rw [if_pos h6]), rfl, rfl⟩
    · refine p_aload_n (z_dec zd_X8_of 5 rfl) rfl 0 rfl (n := 10) rfl ?_
      refine q_getR (z_dec zd_X8_of 6 rfl) zf_X8_10 (i := 1) rfl rfl (n := 13) rfl ?_
      refine p_iload_n (z_dec zd_X8_of 7 rfl) rfl 1 rfl (n := 14) rfl ?_
      refine p_iload_n (z_dec zd_X8_of 8 rfl) rfl 2 rfl (n := 15) rfl ?_
      refine q_callV (As := [.int number, .int what]) (rest := []) (z_dec zd_X8_of 9 rfl) zk_X8_103 zv_X7_numberOf (c_X7_numberOf (d - 1) (by omega) b I L 1 (z_Yd1 b) np hnp hn10 number what) rfl ⟨_, _, rfl⟩ rfl rfl (Nat.le_of_ble_eq_true rfl) (by omega) (n := 18) rfl ?_
      show PW zm_X8_of d 18 [(0, .ref 0), (1, .int number), (2, .int what)] [.int (f_X7_numberOf I 1 number what)] SH (I, L, z_R b) 0 0 _
      refine p_goto (z_dec zd_X8_of 10 rfl) (t := 23) (by decide) ?_
      exact p_iret (z_dec zd_X8_of 12 rfl) rfl ⟨(by unfold f_X8_of; rw [if_neg h6]), rfl, rfl⟩
  exact hentry
def f_X8_mend (I : Nat → Nat → Int32) (dn : Nat) (number : Int32) (what : Int32) (v : Int32) : Int32 := if (f_X8_isNumber I number what) = 0 then (-2000000000) else if (f_X8_isWithin what v) = 0 then (-2000000000) else if (f_X7_numberOf I 1 number what) = v then (f_X7_numberOf I 1 number what) else (f_X7_numberOf I 1 number what)
def m_X8_mend (I : Nat → Nat → Int32) (dn : Nat) (number : Int32) (what : Int32) (v : Int32) : Nat → Nat → Int32 := if (f_X8_isNumber I number what) = 0 then I else if (f_X8_isWithin what v) = 0 then I else if (f_X7_numberOf I 1 number what) = v then I else (m_X7_become (m_X0_remember I dn number what (f_X7_numberOf I 1 number what) v) 1 number what v)
set_option maxHeartbeats 4000000 in
set_option maxRecDepth 100000 in
theorem c_X8_mend (d : Nat) (hd : 3 ≤ d) (b : Bool) (I : Nat → Nat → Int32) (L : Nat → Nat → Int64) (np : Nat) (hnp : I 1 0 = nI np) (hn10 : np ≤ 10) (dn : Nat) (hdn : I 33 4 = nI dn) (hd40 : dn ≤ 40) (number : Int32) (what : Int32) (v : Int32) : z_CT zm_X8_mend d [.ref 0, .int number, .int what, .int v] SH (I, L, z_R b) 0 0 (z_ret (some (.int (f_X8_mend I dn number what v))) ((m_X8_mend I dn number what v), L, z_R b)) := by
  refine z_enter (by decide +kernel) (Nat.le_of_ble_eq_true rfl) ?_
  have hentry : PW zm_X8_mend d 0 [(0, .ref 0), (1, .int number), (2, .int what), (3, .int v)] [] SH (I, L, z_R b) 0 0 (z_ret (some (.int (f_X8_mend I dn number what v))) ((m_X8_mend I dn number what v), L, z_R b)) := by
    refine p_aload_n (z_dec zd_X8_mend 0 rfl) rfl 0 rfl (n := 1) rfl ?_
    refine p_iload_n (z_dec zd_X8_mend 1 rfl) rfl 1 rfl (n := 2) rfl ?_
    refine p_iload_n (z_dec zd_X8_mend 2 rfl) rfl 2 rfl (n := 3) rfl ?_
    refine q_callV (As := [.int number, .int what]) (rest := []) (z_dec zd_X8_mend 3 rfl) zk_X8_99 zv_X8_isNumber (c_X8_isNumber (d - 1) (by omega) b I L number what) rfl ⟨_, _, rfl⟩ rfl rfl (Nat.le_of_ble_eq_true rfl) (by omega) (n := 6) rfl ?_
    show PW zm_X8_mend d 6 [(0, .ref 0), (1, .int number), (2, .int what), (3, .int v)] [.int (f_X8_isNumber I number what)] SH (I, L, z_R b) 0 0 _
    refine p_if_eq (z_dec zd_X8_mend 4 rfl) (t := 17) (by decide) (n := 9) rfl (fun h6 => ?_) (fun h6 => ?_)
    · refine p_ldc (z_dec zd_X8_mend 9 rfl) zq_X8_102 (n := 19) rfl ?_
      exact p_iret (z_dec zd_X8_mend 10 rfl) rfl ⟨(by unfold f_X8_mend; rw [if_pos h6]), rfl, (z_3 (by unfold m_X8_mend; rw [if_pos h6]) rfl)⟩
    · refine p_iload_n (z_dec zd_X8_mend 5 rfl) rfl 2 rfl (n := 10) rfl ?_
      refine p_iload_n (z_dec zd_X8_mend 6 rfl) rfl 3 rfl (n := 11) rfl ?_
      refine q_callS (As := [.int what, .int v]) (rest := []) (z_dec zd_X8_mend 7 rfl) zk_X8_72 zs_X8_isWithin (c_X8_isWithin (d - 1) (by omega) b I L what v) rfl rfl (Nat.le_of_ble_eq_true rfl) (by omega) (n := 14) rfl ?_
      show PW zm_X8_mend d 14 [(0, .ref 0), (1, .int number), (2, .int what), (3, .int v)] [.int (f_X8_isWithin what v)] SH (I, L, z_R b) 0 0 _
      refine p_if_ne (z_dec zd_X8_mend 8 rfl) (t := 20) (by decide) (n := 17) rfl (fun h14 => ?_) (fun h14 => ?_)
      · refine p_aload_n (z_dec zd_X8_mend 11 rfl) rfl 0 rfl (n := 21) rfl ?_
        refine q_getR (z_dec zd_X8_mend 12 rfl) zf_X8_10 (i := 1) rfl rfl (n := 24) rfl ?_
        refine p_iload_n (z_dec zd_X8_mend 13 rfl) rfl 1 rfl (n := 25) rfl ?_
        refine p_iload_n (z_dec zd_X8_mend 14 rfl) rfl 2 rfl (n := 26) rfl ?_
        refine q_callV (As := [.int number, .int what]) (rest := []) (z_dec zd_X8_mend 15 rfl) zk_X8_103 zv_X7_numberOf (c_X7_numberOf (d - 1) (by omega) b I L 1 (z_Yd1 b) np hnp hn10 number what) rfl ⟨_, _, rfl⟩ rfl rfl (Nat.le_of_ble_eq_true rfl) (by omega) (n := 29) rfl ?_
        show PW zm_X8_mend d 29 [(0, .ref 0), (1, .int number), (2, .int what), (3, .int v)] [.int (f_X7_numberOf I 1 number what)] SH (I, L, z_R b) 0 0 _
        refine p_istore (z_dec zd_X8_mend 16 rfl) (lv2 := [(4, .int (f_X7_numberOf I 1 number what)), (0, .ref 0), (1, .int number), (2, .int what), (3, .int v)]) (by decide) rfl (n := 31) rfl ?_
        refine p_iload (z_dec zd_X8_mend 17 rfl) 0 rfl (n := 33) rfl ?_
        refine p_iload_n (z_dec zd_X8_mend 18 rfl) rfl 4 rfl (n := 34) rfl ?_
        refine p_icmp_eq (z_dec zd_X8_mend 19 rfl) (t := 59) (by decide) (n := 37) rfl (fun h34 => ?_) (fun h34 => ?_)
        · refine p_iload (z_dec zd_X8_mend 33 rfl) 0 rfl (n := 61) rfl ?_
          exact p_iret (z_dec zd_X8_mend 34 rfl) rfl ⟨(by unfold f_X8_mend; rw [if_neg h6, if_neg h14, if_pos h34]), rfl, (z_3 (by unfold m_X8_mend; rw [if_neg h6, if_neg h14, if_pos h34]) rfl)⟩
        · refine p_aload_n (z_dec zd_X8_mend 20 rfl) rfl 1 rfl (n := 38) rfl ?_
          refine q_getR (z_dec zd_X8_mend 21 rfl) zf_X8_54 (i := 33) rfl rfl (n := 41) rfl ?_
          refine p_iload_n (z_dec zd_X8_mend 22 rfl) rfl 2 rfl (n := 42) rfl ?_
          refine p_iload_n (z_dec zd_X8_mend 23 rfl) rfl 3 rfl (n := 43) rfl ?_
          refine p_iload (z_dec zd_X8_mend 24 rfl) 0 rfl (n := 45) rfl ?_
          refine p_iload_n (z_dec zd_X8_mend 25 rfl) rfl 4 rfl (n := 46) rfl ?_
          refine q_callV (As := [.int number, .int what, .int (f_X7_numberOf I 1 number what), .int v]) (rest := []) (z_dec zd_X8_mend 26 rfl) zk_X8_107 zv_X0_remember (c_X0_remember (d - 1) (by omega) b I L dn hdn hd40 number what (f_X7_numberOf I 1 number what) v) rfl ⟨_, _, rfl⟩ rfl rfl (Nat.le_of_ble_eq_true rfl) (by omega) (n := 49) rfl ?_
          show PW zm_X8_mend d 49 [(4, .int (f_X7_numberOf I 1 number what)), (0, .ref 0), (1, .int number), (2, .int what), (3, .int v)] [] SH ((m_X0_remember I dn number what (f_X7_numberOf I 1 number what) v), L, z_R b) 0 0 _
          refine p_aload_n (z_dec zd_X8_mend 27 rfl) rfl 1 rfl (n := 50) rfl ?_
          refine q_getR (z_dec zd_X8_mend 28 rfl) zf_X8_10 (i := 1) rfl rfl (n := 53) rfl ?_
          refine p_iload_n (z_dec zd_X8_mend 29 rfl) rfl 2 rfl (n := 54) rfl ?_
          refine p_iload_n (z_dec zd_X8_mend 30 rfl) rfl 3 rfl (n := 55) rfl ?_
          refine p_iload_n (z_dec zd_X8_mend 31 rfl) rfl 4 rfl (n := 56) rfl ?_
          refine q_callV (As := [.int number, .int what, .int v]) (rest := []) (z_dec zd_X8_mend 32 rfl) zk_X8_111 zv_X7_become (c_X7_become (d - 1) (by omega) b (m_X0_remember I dn number what (f_X7_numberOf I 1 number what) v) L 1 (z_Yd1 b) np ((z_remO _ _ _ _ _ _ _ (by decide)).trans hnp) hn10 number what v) rfl ⟨_, _, rfl⟩ rfl rfl (Nat.le_of_ble_eq_true rfl) (by omega) (n := 59) rfl ?_
          show PW zm_X8_mend d 59 [(4, .int (f_X7_numberOf I 1 number what)), (0, .ref 0), (1, .int number), (2, .int what), (3, .int v)] [] SH ((m_X7_become (m_X0_remember I dn number what (f_X7_numberOf I 1 number what) v) 1 number what v), L, z_R b) 0 0 _
          refine p_iload (z_dec zd_X8_mend 33 rfl) 0 rfl (n := 61) rfl ?_
          exact p_iret (z_dec zd_X8_mend 34 rfl) rfl ⟨(by unfold f_X8_mend; rw [if_neg h6, if_neg h14, if_neg h34]), rfl, (z_3 (by unfold m_X8_mend; rw [if_neg h6, if_neg h14, if_neg h34]) rfl)⟩
      · refine p_ldc (z_dec zd_X8_mend 9 rfl) zq_X8_102 (n := 19) rfl ?_
        exact p_iret (z_dec zd_X8_mend 10 rfl) rfl ⟨(by unfold f_X8_mend; rw [if_neg h6, if_pos h14]), rfl, (z_3 (by unfold m_X8_mend; rw [if_neg h6, if_pos h14]) rfl)⟩
  exact hentry
def f_X8_judges (I : Nat → Nat → Int32) (np : Nat) : Int32 := (f_X7_judgeBits I 1 np)
set_option maxHeartbeats 4000000 in
set_option maxRecDepth 100000 in
theorem c_X8_judges (d : Nat) (hd : 2 ≤ d) (b : Bool) (I : Nat → Nat → Int32) (L : Nat → Nat → Int64) (np : Nat) (hnp : I 1 0 = nI np) (hn10 : np ≤ 10) : z_CT zm_X8_judges d [.ref 0] SH (I, L, z_R b) 0 0 (z_ret (some (.int (f_X8_judges I np))) (I, L, z_R b)) := by
  refine z_enter (by decide +kernel) (Nat.le_of_ble_eq_true rfl) ?_
  have hentry : PW zm_X8_judges d 0 [(0, .ref 0)] [] SH (I, L, z_R b) 0 0 (z_ret (some (.int (f_X8_judges I np))) (I, L, z_R b)) := by
    refine p_aload_n (z_dec zd_X8_judges 0 rfl) rfl 0 rfl (n := 1) rfl ?_
    refine q_getR (z_dec zd_X8_judges 1 rfl) zf_X8_10 (i := 1) rfl rfl (n := 4) rfl ?_
    refine q_callV (As := []) (rest := []) (z_dec zd_X8_judges 2 rfl) zk_X8_130 zv_X7_judgeBits (c_X7_judgeBits (d - 1) (by omega) b I L 1 (z_Yd1 b) np hnp hn10) rfl ⟨_, _, rfl⟩ rfl rfl (Nat.le_of_ble_eq_true rfl) (by omega) (n := 7) rfl ?_
    show PW zm_X8_judges d 7 [(0, .ref 0)] [.int (f_X7_judgeBits I 1 np)] SH (I, L, z_R b) 0 0 _
    exact p_iret (z_dec zd_X8_judges 3 rfl) rfl ⟨(by unfold f_X8_judges; rfl), rfl, rfl⟩
  exact hentry
def gb_X8_three_4 (I : Nat → Nat → Int32) (i4 : Nat) (s : Int32) : Int32 := if (((I 4 i4) &&& ((I 4 i4) >>> ((1 : Int32) &&& 31))) &&& ((I 4 i4) >>> ((2 : Int32) &&& 31))) = 0 then s else (s ||| ((1 : Int32) <<< ((nI i4) &&& 31)))
def g_X8_three_4 (I : Nat → Nat → Int32) : Nat → Int32
  | 0 => 0
  | i4 + 1 => gb_X8_three_4 I i4 (g_X8_three_4 I i4)
def f_X8_three (I : Nat → Nat → Int32) (np : Nat) : Int32 := (g_X8_three_4 I np)
set_option maxHeartbeats 4000000 in
set_option maxRecDepth 100000 in
theorem c_X8_three (d : Nat) (hd : 0 ≤ d) (b : Bool) (I : Nat → Nat → Int32) (L : Nat → Nat → Int64) (np : Nat) (hnp : I 1 0 = nI np) (hn10 : np ≤ 10) : z_CT zm_X8_three d [.ref 0] SH (I, L, z_R b) 0 0 (z_ret (some (.int (f_X8_three I np))) (I, L, z_R b)) := by
  refine z_enter (by decide +kernel) (Nat.le_of_ble_eq_true rfl) ?_
  have hentry : PW zm_X8_three d 0 [(0, .ref 0)] [] SH (I, L, z_R b) 0 0 (z_ret (some (.int (f_X8_three I np))) (I, L, z_R b)) := by
    refine p_iconst (z_dec zd_X8_three 0 rfl) (v := 0) (by decide) (n := 1) rfl ?_
    refine p_istore_n (z_dec zd_X8_three 1 rfl) rfl (lv2 := [(1, .int 0), (0, .ref 0)]) (by decide) rfl (n := 2) rfl ?_
    refine p_iconst (z_dec zd_X8_three 2 rfl) (v := 0) (by decide) (n := 3) rfl ?_
    refine p_istore_n (z_dec zd_X8_three 3 rfl) rfl (lv2 := [(2, .int 0), (1, .int 0), (0, .ref 0)]) (by decide) rfl (n := 4) rfl ?_
    have hL4 : ∀ i4, i4 ≤ np → PW zm_X8_three d 4 [(2, .int (nI i4)), (1, .int (g_X8_three_4 I i4)), (0, .ref 0)] [] SH (I, L, z_R b) 0 0 (z_ret (some (.int (f_X8_three I np))) (I, L, z_R b)) := by
      refine z_down np (fun i4 hi4 ih4 => ?_)
      refine p_iload_n (z_dec zd_X8_three 4 rfl) rfl 0 rfl (n := 5) rfl ?_
      refine p_aload_n (z_dec zd_X8_three 5 rfl) rfl 2 rfl (n := 6) rfl ?_
      refine q_getR (z_dec zd_X8_three 6 rfl) zf_X8_10 (i := 1) rfl rfl (n := 9) rfl ?_
      refine q_getI (z_dec zd_X8_three 7 rfl) zf_X8_136 (by decide) rfl (v := (nI np)) hnp (n := 12) rfl ?_
      refine p_icmp_ge (z_dec zd_X8_three 8 rfl) (t := 49) (by decide) (n := 15) rfl (fun h12 => ?_) (fun h12 => ?_)
      · have hx4 : i4 = np := by have := z_ge (a := np) h12; omega
        rw [hx4]
        refine p_iload_n (z_dec zd_X8_three 33 rfl) rfl 1 rfl (n := 50) rfl ?_
        exact p_iret (z_dec zd_X8_three 34 rfl) rfl ⟨(by unfold f_X8_three; rfl), rfl, rfl⟩
      · have hx4 : i4 < np := by have := z_nge (a := np) h12; omega
        refine p_aload_n (z_dec zd_X8_three 9 rfl) rfl 2 rfl (n := 16) rfl ?_
        refine q_getR (z_dec zd_X8_three 10 rfl) zf_X8_10 (i := 1) rfl rfl (n := 19) rfl ?_
        refine q_getR (z_dec zd_X8_three 11 rfl) zf_X8_165 (i := 4) rfl rfl (n := 22) rfl ?_
        refine p_iload_n (z_dec zd_X8_three 12 rfl) rfl 0 rfl (n := 23) rfl ?_
        refine q_iald (z_dec zd_X8_three 13 rfl) rfl (by decide) (i4) rfl (by omega) (v := (I 4 i4)) rfl (n := 24) rfl ?_
        refine p_istore_n (z_dec zd_X8_three 14 rfl) rfl (lv2 := [(3, .int (I 4 i4)), (2, .int (nI i4)), (1, .int (g_X8_three_4 I i4)), (0, .ref 0)]) (by decide) rfl (n := 25) rfl ?_
        refine p_iload_n (z_dec zd_X8_three 15 rfl) rfl 0 rfl (n := 26) rfl ?_
        refine p_iload_n (z_dec zd_X8_three 16 rfl) rfl 0 rfl (n := 27) rfl ?_
        refine p_iconst (z_dec zd_X8_three 17 rfl) (v := 1) (by decide) (n := 28) rfl ?_
        refine p_ishr (z_dec zd_X8_three 18 rfl) (n := 29) rfl ?_
        refine p_iand (z_dec zd_X8_three 19 rfl) (n := 30) rfl ?_
        refine p_iload_n (z_dec zd_X8_three 20 rfl) rfl 0 rfl (n := 31) rfl ?_
        refine p_iconst (z_dec zd_X8_three 21 rfl) (v := 2) (by decide) (n := 32) rfl ?_
        refine p_ishr (z_dec zd_X8_three 22 rfl) (n := 33) rfl ?_
        refine p_iand (z_dec zd_X8_three 23 rfl) (n := 34) rfl ?_
        refine p_if_eq (z_dec zd_X8_three 24 rfl) (t := 43) (by decide) (n := 37) rfl (fun h34 => ?_) (fun h34 => ?_)
        · refine p_iinc (z_dec zd_X8_three 31 rfl) 1 rfl (v := (nI (i4 + 1))) (nI_1 _) (lv2 := [(2, .int (nI (i4 + 1))), (3, .int (I 4 i4)), (1, .int (g_X8_three_4 I i4)), (0, .ref 0)]) (by decide) rfl (n := 46) rfl ?_
          refine p_goto (z_dec zd_X8_three 32 rfl) (t := 4) (by decide) ?_
          refine z_sub (lv' := [(2, .int (nI (i4 + 1))), (1, .int (g_X8_three_4 I i4)), (0, .ref 0)]) [0, 2, 3] rfl ?_
          have eb : (g_X8_three_4 I) (i4 + 1) = (g_X8_three_4 I i4) := by show gb_X8_three_4 I i4 ((g_X8_three_4 I) i4) = _; unfold gb_X8_three_4; rw [if_pos h34]
          refine z_lv (lv' := [(2, .int (nI (i4 + 1))), (1, .int (g_X8_three_4 I (i4 + 1))), (0, .ref 0)]) (by rw [eb]) rfl rfl (ih4 (by omega))
        · refine p_iload_n (z_dec zd_X8_three 25 rfl) rfl 2 rfl (n := 38) rfl ?_
          refine p_iconst (z_dec zd_X8_three 26 rfl) (v := 1) (by decide) (n := 39) rfl ?_
          refine p_iload_n (z_dec zd_X8_three 27 rfl) rfl 1 rfl (n := 40) rfl ?_
          refine p_ishl (z_dec zd_X8_three 28 rfl) (n := 41) rfl ?_
          refine p_ior (z_dec zd_X8_three 29 rfl) (n := 42) rfl ?_
          refine p_istore_n (z_dec zd_X8_three 30 rfl) rfl (lv2 := [(1, .int ((g_X8_three_4 I i4) ||| ((1 : Int32) <<< ((nI i4) &&& 31)))), (3, .int (I 4 i4)), (2, .int (nI i4)), (0, .ref 0)]) (by decide) rfl (n := 43) rfl ?_
          refine p_iinc (z_dec zd_X8_three 31 rfl) 2 rfl (v := (nI (i4 + 1))) (nI_1 _) (lv2 := [(2, .int (nI (i4 + 1))), (1, .int ((g_X8_three_4 I i4) ||| ((1 : Int32) <<< ((nI i4) &&& 31)))), (3, .int (I 4 i4)), (0, .ref 0)]) (by decide) rfl (n := 46) rfl ?_
          refine p_goto (z_dec zd_X8_three 32 rfl) (t := 4) (by decide) ?_
          refine z_sub (lv' := [(2, .int (nI (i4 + 1))), (1, .int ((g_X8_three_4 I i4) ||| ((1 : Int32) <<< ((nI i4) &&& 31)))), (0, .ref 0)]) [0, 1, 3] rfl ?_
          have eb : (g_X8_three_4 I) (i4 + 1) = ((g_X8_three_4 I i4) ||| ((1 : Int32) <<< ((nI i4) &&& 31))) := by show gb_X8_three_4 I i4 ((g_X8_three_4 I) i4) = _; unfold gb_X8_three_4; rw [if_neg h34]
          refine z_lv (lv' := [(2, .int (nI (i4 + 1))), (1, .int (g_X8_three_4 I (i4 + 1))), (0, .ref 0)]) (by rw [eb]) rfl rfl (ih4 (by omega))
    refine z_lv (lv' := [(2, .int (nI 0)), (1, .int (g_X8_three_4 I 0)), (0, .ref 0)]) rfl rfl rfl (hL4 0 (Nat.zero_le _))
  exact hentry
def f_X8_lemonade (I : Nat → Nat → Int32) (one : Int32) : Int32 := if (f_X7_has I 1 one) = 0 then (-1) else (if 0 < ((I 3 one.toNatClampNeg) - 20) then ((I 3 one.toNatClampNeg) - 20) else 0)
def m_X8_lemonade (I : Nat → Nat → Int32) (one : Int32) : Nat → Nat → Int32 := if (f_X7_has I 1 one) = 0 then I else (z_up (z_up I 3 one.toNatClampNeg (if 0 < ((I 3 one.toNatClampNeg) - 20) then ((I 3 one.toNatClampNeg) - 20) else 0)) 6 2 ((I 6 2) + 1))
set_option maxHeartbeats 4000000 in
set_option maxRecDepth 100000 in
theorem c_X8_lemonade (d : Nat) (hd : 1 ≤ d) (b : Bool) (I : Nat → Nat → Int32) (L : Nat → Nat → Int64) (np : Nat) (hnp : I 1 0 = nI np) (hn10 : np ≤ 10) (one : Int32) : z_CT zm_X8_lemonade d [.ref 0, .int one] SH (I, L, z_R b) 0 0 (z_ret (some (.int (f_X8_lemonade I one))) ((m_X8_lemonade I one), L, z_R b)) := by
  refine z_enter (by decide +kernel) (Nat.le_of_ble_eq_true rfl) ?_
  have hentry : PW zm_X8_lemonade d 0 [(0, .ref 0), (1, .int one)] [] SH (I, L, z_R b) 0 0 (z_ret (some (.int (f_X8_lemonade I one))) ((m_X8_lemonade I one), L, z_R b)) := by
    refine p_aload_n (z_dec zd_X8_lemonade 0 rfl) rfl 0 rfl (n := 1) rfl ?_
    refine q_getR (z_dec zd_X8_lemonade 1 rfl) zf_X8_10 (i := 1) rfl rfl (n := 4) rfl ?_
    refine p_iload_n (z_dec zd_X8_lemonade 2 rfl) rfl 1 rfl (n := 5) rfl ?_
    refine q_callV (As := [.int one]) (rest := []) (z_dec zd_X8_lemonade 3 rfl) zk_X8_133 zv_X7_has (c_X7_has (d - 1) (by omega) b I L 1 (z_Yd1 b) one) rfl ⟨_, _, rfl⟩ rfl rfl (Nat.le_of_ble_eq_true rfl) (by omega) (n := 8) rfl ?_
    show PW zm_X8_lemonade d 8 [(0, .ref 0), (1, .int one)] [.int (f_X7_has I 1 one)] SH (I, L, z_R b) 0 0 _
    refine p_if_ne (z_dec zd_X8_lemonade 4 rfl) (t := 13) (by decide) (n := 11) rfl (fun h8 => ?_) (fun h8 => ?_)
    · have hj := z_has hnp hn10 h8
      refine p_aload_n (z_dec zd_X8_lemonade 7 rfl) rfl 0 rfl (n := 14) rfl ?_
      refine q_getR (z_dec zd_X8_lemonade 8 rfl) zf_X8_10 (i := 1) rfl rfl (n := 17) rfl ?_
      refine q_getR (z_dec zd_X8_lemonade 9 rfl) zf_X8_169 (i := 3) rfl rfl (n := 20) rfl ?_
      refine p_iload_n (z_dec zd_X8_lemonade 10 rfl) rfl 1 rfl (n := 21) rfl ?_
      refine p_iconst (z_dec zd_X8_lemonade 11 rfl) (v := 0) (by decide) (n := 22) rfl ?_
      refine p_aload_n (z_dec zd_X8_lemonade 12 rfl) rfl 0 rfl (n := 23) rfl ?_
      refine q_getR (z_dec zd_X8_lemonade 13 rfl) zf_X8_10 (i := 1) rfl rfl (n := 26) rfl ?_
      refine q_getR (z_dec zd_X8_lemonade 14 rfl) zf_X8_169 (i := 3) rfl rfl (n := 29) rfl ?_
      refine p_iload_n (z_dec zd_X8_lemonade 15 rfl) rfl 1 rfl (n := 30) rfl ?_
      refine q_iald (z_dec zd_X8_lemonade 16 rfl) rfl (by decide) (one.toNatClampNeg) hj.1 (Nat.lt_of_lt_of_le hj.2 hn10) (v := (I 3 one.toNatClampNeg)) rfl (n := 31) rfl ?_
      refine p_bipush (z_dec zd_X8_lemonade 17 rfl) (v := 20) (by decide) (n := 33) rfl ?_
      refine p_isub (z_dec zd_X8_lemonade 18 rfl) (n := 34) rfl ?_
      refine p_mmax (z_dec zd_X8_lemonade 19 rfl) zk_X8_244 (by omega) (Nat.le_of_ble_eq_true rfl) (n := 37) rfl ?_
      refine q_iast (z_dec zd_X8_lemonade 20 rfl) rfl (by decide) (one.toNatClampNeg) hj.1 (Nat.lt_of_lt_of_le hj.2 hn10) (n := 38) rfl ?_
      refine p_aload_n (z_dec zd_X8_lemonade 21 rfl) rfl 0 rfl (n := 39) rfl ?_
      refine q_getR (z_dec zd_X8_lemonade 22 rfl) zf_X8_10 (i := 1) rfl rfl (n := 42) rfl ?_
      refine q_getR (z_dec zd_X8_lemonade 23 rfl) zf_X8_241 (i := 6) rfl rfl (n := 45) rfl ?_
      refine p_iconst (z_dec zd_X8_lemonade 24 rfl) (v := 2) (by decide) (n := 46) rfl ?_
      refine p_dup2 (z_dec zd_X8_lemonade 25 rfl) rfl rfl (n := 47) rfl ?_
      refine q_iald (z_dec zd_X8_lemonade 26 rfl) rfl (by decide) (2) rfl (by decide) (v := (I 6 2)) rfl (n := 48) rfl ?_
      refine p_iconst (z_dec zd_X8_lemonade 27 rfl) (v := 1) (by decide) (n := 49) rfl ?_
      refine p_iadd (z_dec zd_X8_lemonade 28 rfl) (n := 50) rfl ?_
      refine q_iast (z_dec zd_X8_lemonade 29 rfl) rfl (by decide) (2) rfl (by decide) (n := 51) rfl ?_
      refine p_aload_n (z_dec zd_X8_lemonade 30 rfl) rfl 0 rfl (n := 52) rfl ?_
      refine q_getR (z_dec zd_X8_lemonade 31 rfl) zf_X8_10 (i := 1) rfl rfl (n := 55) rfl ?_
      refine q_getR (z_dec zd_X8_lemonade 32 rfl) zf_X8_169 (i := 3) rfl rfl (n := 58) rfl ?_
      refine p_iload_n (z_dec zd_X8_lemonade 33 rfl) rfl 1 rfl (n := 59) rfl ?_
      refine q_iald (z_dec zd_X8_lemonade 34 rfl) rfl (by decide) (one.toNatClampNeg) hj.1 (Nat.lt_of_lt_of_le hj.2 hn10) (v := (if 0 < ((I 3 one.toNatClampNeg) - 20) then ((I 3 one.toNatClampNeg) - 20) else 0)) (by simp [z_up]) (n := 60) rfl ?_
      exact p_iret (z_dec zd_X8_lemonade 35 rfl) rfl ⟨(by unfold f_X8_lemonade; rw [if_neg h8]), rfl, (z_3 (by unfold m_X8_lemonade; rw [if_neg h8]) rfl)⟩
    · refine p_iconst (z_dec zd_X8_lemonade 5 rfl) (v := (-1)) (by decide) (n := 12) rfl ?_
      exact p_iret (z_dec zd_X8_lemonade 6 rfl) rfl ⟨(by unfold f_X8_lemonade; rw [if_pos h8]), rfl, (z_3 (by unfold m_X8_lemonade; rw [if_pos h8]) rfl)⟩
  exact hentry
def f_X8_day (I : Nat → Nat → Int32) (np : Nat) : Int32 := (f_X7_judgeBits (m_X7_endDay (z_up (z_up I 6 4 ((I 6 4) + (f_X7_countBeaten I 1 np))) 6 3 ((I 6 3) + 1)) 1 np) 1 np)
def m_X8_day (I : Nat → Nat → Int32) (np : Nat) : Nat → Nat → Int32 := (m_X7_endDay (z_up (z_up I 6 4 ((I 6 4) + (f_X7_countBeaten I 1 np))) 6 3 ((I 6 3) + 1)) 1 np)
set_option maxHeartbeats 4000000 in
set_option maxRecDepth 100000 in
theorem c_X8_day (d : Nat) (hd : 2 ≤ d) (b : Bool) (I : Nat → Nat → Int32) (L : Nat → Nat → Int64) (np : Nat) (hnp : I 1 0 = nI np) (hn10 : np ≤ 10) : z_CT zm_X8_day d [.ref 0] SH (I, L, z_R b) 0 0 (z_ret (some (.int (f_X8_day I np))) ((m_X8_day I np), L, z_R b)) := by
  refine z_enter (by decide +kernel) (Nat.le_of_ble_eq_true rfl) ?_
  have hentry : PW zm_X8_day d 0 [(0, .ref 0)] [] SH (I, L, z_R b) 0 0 (z_ret (some (.int (f_X8_day I np))) ((m_X8_day I np), L, z_R b)) := by
    refine p_aload_n (z_dec zd_X8_day 0 rfl) rfl 0 rfl (n := 1) rfl ?_
    refine q_getR (z_dec zd_X8_day 1 rfl) zf_X8_10 (i := 1) rfl rfl (n := 4) rfl ?_
    refine q_getR (z_dec zd_X8_day 2 rfl) zf_X8_241 (i := 6) rfl rfl (n := 7) rfl ?_
    refine p_iconst (z_dec zd_X8_day 3 rfl) (v := 4) (by decide) (n := 8) rfl ?_
    refine p_dup2 (z_dec zd_X8_day 4 rfl) rfl rfl (n := 9) rfl ?_
    refine q_iald (z_dec zd_X8_day 5 rfl) rfl (by decide) (4) rfl (by decide) (v := (I 6 4)) rfl (n := 10) rfl ?_
    refine p_aload_n (z_dec zd_X8_day 6 rfl) rfl 0 rfl (n := 11) rfl ?_
    refine q_getR (z_dec zd_X8_day 7 rfl) zf_X8_10 (i := 1) rfl rfl (n := 14) rfl ?_
    refine q_callV (As := []) (rest := [.int (I 6 4), .int 4, .ref 6]) (z_dec zd_X8_day 8 rfl) zk_X8_249 zv_X7_countBeaten (c_X7_countBeaten (d - 1) (by omega) b I L 1 (z_Yd1 b) np hnp hn10) rfl ⟨_, _, rfl⟩ rfl rfl (Nat.le_of_ble_eq_true rfl) (by omega) (n := 17) rfl ?_
    show PW zm_X8_day d 17 [(0, .ref 0)] [.int (f_X7_countBeaten I 1 np), .int (I 6 4), .int 4, .ref 6] SH (I, L, z_R b) 0 0 _
    refine p_iadd (z_dec zd_X8_day 9 rfl) (n := 18) rfl ?_
    refine q_iast (z_dec zd_X8_day 10 rfl) rfl (by decide) (4) rfl (by decide) (n := 19) rfl ?_
    refine p_aload_n (z_dec zd_X8_day 11 rfl) rfl 0 rfl (n := 20) rfl ?_
    refine q_getR (z_dec zd_X8_day 12 rfl) zf_X8_10 (i := 1) rfl rfl (n := 23) rfl ?_
    refine q_getR (z_dec zd_X8_day 13 rfl) zf_X8_241 (i := 6) rfl rfl (n := 26) rfl ?_
    refine p_iconst (z_dec zd_X8_day 14 rfl) (v := 3) (by decide) (n := 27) rfl ?_
    refine p_dup2 (z_dec zd_X8_day 15 rfl) rfl rfl (n := 28) rfl ?_
    refine q_iald (z_dec zd_X8_day 16 rfl) rfl (by decide) (3) rfl (by decide) (v := (I 6 3)) rfl (n := 29) rfl ?_
    refine p_iconst (z_dec zd_X8_day 17 rfl) (v := 1) (by decide) (n := 30) rfl ?_
    refine p_iadd (z_dec zd_X8_day 18 rfl) (n := 31) rfl ?_
    refine q_iast (z_dec zd_X8_day 19 rfl) rfl (by decide) (3) rfl (by decide) (n := 32) rfl ?_
    refine p_aload_n (z_dec zd_X8_day 20 rfl) rfl 0 rfl (n := 33) rfl ?_
    refine q_getR (z_dec zd_X8_day 21 rfl) zf_X8_10 (i := 1) rfl rfl (n := 36) rfl ?_
    refine q_callV (As := []) (rest := []) (z_dec zd_X8_day 22 rfl) zk_X8_252 zv_X7_endDay (c_X7_endDay (d - 1) (by omega) b (z_up (z_up I 6 4 ((I 6 4) + (f_X7_countBeaten I 1 np))) 6 3 ((I 6 3) + 1)) L 1 (z_Yd1 b) np hnp hn10) rfl ⟨_, _, rfl⟩ rfl rfl (Nat.le_of_ble_eq_true rfl) (by omega) (n := 39) rfl ?_
    show PW zm_X8_day d 39 [(0, .ref 0)] [] SH ((m_X7_endDay (z_up (z_up I 6 4 ((I 6 4) + (f_X7_countBeaten I 1 np))) 6 3 ((I 6 3) + 1)) 1 np), L, z_R b) 0 0 _
    refine p_aload_n (z_dec zd_X8_day 23 rfl) rfl 0 rfl (n := 40) rfl ?_
    refine q_getR (z_dec zd_X8_day 24 rfl) zf_X8_10 (i := 1) rfl rfl (n := 43) rfl ?_
    refine q_callV (As := []) (rest := []) (z_dec zd_X8_day 25 rfl) zk_X8_130 zv_X7_judgeBits (c_X7_judgeBits (d - 1) (by omega) b (m_X7_endDay (z_up (z_up I 6 4 ((I 6 4) + (f_X7_countBeaten I 1 np))) 6 3 ((I 6 3) + 1)) 1 np) L 1 (z_Yd1 b) np ((z_edO _ _ _).trans hnp) hn10) rfl ⟨_, _, rfl⟩ rfl rfl (Nat.le_of_ble_eq_true rfl) (by omega) (n := 46) rfl ?_
    show PW zm_X8_day d 46 [(0, .ref 0)] [.int (f_X7_judgeBits (m_X7_endDay (z_up (z_up I 6 4 ((I 6 4) + (f_X7_countBeaten I 1 np))) 6 3 ((I 6 3) + 1)) 1 np) 1 np)] SH ((m_X7_endDay (z_up (z_up I 6 4 ((I 6 4) + (f_X7_countBeaten I 1 np))) 6 3 ((I 6 3) + 1)) 1 np), L, z_R b) 0 0 _
    exact p_iret (z_dec zd_X8_day 26 rfl) rfl ⟨(by unfold f_X8_day; rfl), rfl, (z_3 (by unfold m_X8_day; rfl) rfl)⟩
  exact hentry
def f_X8_led (I : Nat → Nat → Int32) (what : Int32) : Int32 := if what < 0 then (-1) else if 5 ≤ what then (-1) else (I 6 what.toNatClampNeg)
set_option maxHeartbeats 4000000 in
set_option maxRecDepth 100000 in
theorem c_X8_led (d : Nat) (hd : 0 ≤ d) (b : Bool) (I : Nat → Nat → Int32) (L : Nat → Nat → Int64) (what : Int32) : z_CT zm_X8_led d [.ref 0, .int what] SH (I, L, z_R b) 0 0 (z_ret (some (.int (f_X8_led I what))) (I, L, z_R b)) := by
  refine z_enter (by decide +kernel) (Nat.le_of_ble_eq_true rfl) ?_
  have hentry : PW zm_X8_led d 0 [(0, .ref 0), (1, .int what)] [] SH (I, L, z_R b) 0 0 (z_ret (some (.int (f_X8_led I what))) (I, L, z_R b)) := by
    refine p_iload_n (z_dec zd_X8_led 0 rfl) rfl 1 rfl (n := 1) rfl ?_
    refine p_if_lt (z_dec zd_X8_led 1 rfl) (t := 21) (by decide) (n := 4) rfl (fun h1 => ?_) (fun h1 => ?_)
    · refine p_iconst (z_dec zd_X8_led 11 rfl) (v := (-1)) (by decide) (n := 22) rfl ?_
      exact p_iret (z_dec zd_X8_led 12 rfl) rfl ⟨(by unfold f_X8_led; rw [if_pos h1]), rfl, rfl⟩
    · refine p_iload_n (z_dec zd_X8_led 2 rfl) rfl 1 rfl (n := 5) rfl ?_
      refine p_iconst (z_dec zd_X8_led 3 rfl) (v := 5) (by decide) (n := 6) rfl ?_
      refine p_icmp_ge (z_dec zd_X8_led 4 rfl) (t := 21) (by decide) (n := 9) rfl (fun h6 => ?_) (fun h6 => ?_)
      · refine p_iconst (z_dec zd_X8_led 11 rfl) (v := (-1)) (by decide) (n := 22) rfl ?_
        exact p_iret (z_dec zd_X8_led 12 rfl) rfl ⟨(by unfold f_X8_led; rw [if_neg h1, if_pos h6]), rfl, rfl⟩
      · have hj := z_inN (N := 5) h1 h6 (by omega)
        refine p_aload_n (z_dec zd_X8_led 5 rfl) rfl 0 rfl (n := 10) rfl ?_
        refine q_getR (z_dec zd_X8_led 6 rfl) zf_X8_10 (i := 1) rfl rfl (n := 13) rfl ?_
        refine q_getR (z_dec zd_X8_led 7 rfl) zf_X8_241 (i := 6) rfl rfl (n := 16) rfl ?_
        refine p_iload_n (z_dec zd_X8_led 8 rfl) rfl 1 rfl (n := 17) rfl ?_
        refine q_iald (z_dec zd_X8_led 9 rfl) rfl (by decide) (what.toNatClampNeg) hj.1 hj.2 (v := (I 6 what.toNatClampNeg)) rfl (n := 18) rfl ?_
        refine p_goto (z_dec zd_X8_led 10 rfl) (t := 22) (by decide) ?_
        exact p_iret (z_dec zd_X8_led 12 rfl) rfl ⟨(by unfold f_X8_led; rw [if_neg h1, if_neg h6]), rfl, rfl⟩
  exact hentry
def f_X8_image (I : Nat → Nat → Int32) (np : Nat) : Int32 := ((m_X7_copyAll_7 I np) 6 0)
def m_X8_image (I : Nat → Nat → Int32) (np : Nat) : Nat → Nat → Int32 := (z_up (m_X7_copyAll_7 I np) 0 2 1)
set_option maxHeartbeats 4000000 in
set_option maxRecDepth 100000 in
theorem c_X8_image (d : Nat) (hd : 3 ≤ d) (b : Bool) (I : Nat → Nat → Int32) (L : Nat → Nat → Int64) (np : Nat) (hnp : I 1 0 = nI np) (hn10 : np ≤ 10) : z_CT zm_X8_image d [.ref 0] SH (I, L, z_R b) 0 0 (z_ret (some (.int (f_X8_image I np))) ((m_X8_image I np), L, z_R b)) := by
  refine z_enter (by decide +kernel) (Nat.le_of_ble_eq_true rfl) ?_
  have hentry : PW zm_X8_image d 0 [(0, .ref 0)] [] SH (I, L, z_R b) 0 0 (z_ret (some (.int (f_X8_image I np))) ((m_X8_image I np), L, z_R b)) := by
    refine p_aload_n (z_dec zd_X8_image 0 rfl) rfl 0 rfl (n := 1) rfl ?_
    refine q_getR (z_dec zd_X8_image 1 rfl) zf_X8_16 (i := 7) rfl rfl (n := 4) rfl ?_
    refine p_aload_n (z_dec zd_X8_image 2 rfl) rfl 0 rfl (n := 5) rfl ?_
    refine q_getR (z_dec zd_X8_image 3 rfl) zf_X8_10 (i := 1) rfl rfl (n := 8) rfl ?_
    refine q_callV (As := [.ref 1]) (rest := []) (z_dec zd_X8_image 4 rfl) zk_X8_255 zv_X7_copyAll (c_X7_copyAll_7 (d - 1) (by omega) b I L np hnp hn10) rfl ⟨_, _, rfl⟩ rfl rfl (Nat.le_of_ble_eq_true rfl) (by omega) (n := 11) rfl ?_
    show PW zm_X8_image d 11 [(0, .ref 0)] [] SH ((m_X7_copyAll_7 I np), L, z_R b) 0 0 _
    refine p_aload_n (z_dec zd_X8_image 5 rfl) rfl 0 rfl (n := 12) rfl ?_
    refine p_iconst (z_dec zd_X8_image 6 rfl) (v := 1) (by decide) (n := 13) rfl ?_
    refine q_putZ (z_dec zd_X8_image 7 rfl) zp_X8_19 (fun q => by cases q) (Or.inr rfl) rfl (n := 16) rfl ?_
    refine p_aload_n (z_dec zd_X8_image 8 rfl) rfl 0 rfl (n := 17) rfl ?_
    refine q_getR (z_dec zd_X8_image 9 rfl) zf_X8_10 (i := 1) rfl rfl (n := 20) rfl ?_
    refine q_getR (z_dec zd_X8_image 10 rfl) zf_X8_241 (i := 6) rfl rfl (n := 23) rfl ?_
    refine p_iconst (z_dec zd_X8_image 11 rfl) (v := 0) (by decide) (n := 24) rfl ?_
    refine q_iald (z_dec zd_X8_image 12 rfl) rfl (by decide) (0) rfl (by decide) (v := ((m_X7_copyAll_7 I np) 6 0)) rfl (n := 25) rfl ?_
    exact p_iret (z_dec zd_X8_image 13 rfl) rfl ⟨(by unfold f_X8_image; rfl), rfl, (z_3 (by unfold m_X8_image; rfl) rfl)⟩
  exact hentry
def f_X8_back (I : Nat → Nat → Int32) (nq : Nat) : Int32 := if (I 0 2) = 0 then (-5) else ((m_X7_layBack_1_7 I nq) 6 0)
def m_X8_back (I : Nat → Nat → Int32) (nq : Nat) : Nat → Nat → Int32 := if (I 0 2) = 0 then I else (m_X7_layBack_1_7 I nq)
set_option maxHeartbeats 4000000 in
set_option maxRecDepth 100000 in
theorem c_X8_back (d : Nat) (hd : 2 ≤ d) (b : Bool) (I : Nat → Nat → Int32) (L : Nat → Nat → Int64) (np : Nat) (hnp : I 1 0 = nI np) (hn10 : np ≤ 10) (nq : Nat) (hnq : I 7 0 = nI nq) (hq10 : nq ≤ np) : z_CT zm_X8_back d [.ref 0] SH (I, L, z_R b) 0 0 (z_ret (some (.int (f_X8_back I nq))) ((m_X8_back I nq), L, z_R b)) := by
  refine z_enter (by decide +kernel) (Nat.le_of_ble_eq_true rfl) ?_
  have hentry : PW zm_X8_back d 0 [(0, .ref 0)] [] SH (I, L, z_R b) 0 0 (z_ret (some (.int (f_X8_back I nq))) ((m_X8_back I nq), L, z_R b)) := by
    refine p_aload_n (z_dec zd_X8_back 0 rfl) rfl 0 rfl (n := 1) rfl ?_
    refine q_getI (z_dec zd_X8_back 1 rfl) zf_X8_19 (by decide) rfl (v := (I 0 2)) rfl (n := 4) rfl ?_
    refine p_if_ne (z_dec zd_X8_back 2 rfl) (t := 10) (by decide) (n := 7) rfl (fun h4 => ?_) (fun h4 => ?_)
    · refine p_aload_n (z_dec zd_X8_back 5 rfl) rfl 0 rfl (n := 11) rfl ?_
      refine q_getR (z_dec zd_X8_back 6 rfl) zf_X8_10 (i := 1) rfl rfl (n := 14) rfl ?_
      refine p_aload_n (z_dec zd_X8_back 7 rfl) rfl 0 rfl (n := 15) rfl ?_
      refine q_getR (z_dec zd_X8_back 8 rfl) zf_X8_16 (i := 7) rfl rfl (n := 18) rfl ?_
      refine q_callV (As := [.ref 7]) (rest := []) (z_dec zd_X8_back 9 rfl) zk_X8_258 zv_X7_layBack (c_X7_layBack_1_7 (d - 1) (by omega) b I L np nq hnp hnq hq10 hn10) rfl ⟨_, _, rfl⟩ rfl rfl (Nat.le_of_ble_eq_true rfl) (by omega) (n := 21) rfl ?_
      show PW zm_X8_back d 21 [(0, .ref 0)] [] SH ((m_X7_layBack_1_7 I nq), L, z_R b) 0 0 _
      refine p_aload_n (z_dec zd_X8_back 10 rfl) rfl 0 rfl (n := 22) rfl ?_
      refine q_getR (z_dec zd_X8_back 11 rfl) zf_X8_10 (i := 1) rfl rfl (n := 25) rfl ?_
      refine q_getR (z_dec zd_X8_back 12 rfl) zf_X8_241 (i := 6) rfl rfl (n := 28) rfl ?_
      refine p_iconst (z_dec zd_X8_back 13 rfl) (v := 0) (by decide) (n := 29) rfl ?_
      refine q_iald (z_dec zd_X8_back 14 rfl) rfl (by decide) (0) rfl (by decide) (v := ((m_X7_layBack_1_7 I nq) 6 0)) rfl (n := 30) rfl ?_
      exact p_iret (z_dec zd_X8_back 15 rfl) rfl ⟨(by unfold f_X8_back; rw [if_neg h4]), rfl, (z_3 (by unfold m_X8_back; rw [if_neg h4]) rfl)⟩
    · refine p_bipush (z_dec zd_X8_back 3 rfl) (v := (-5)) (by decide) (n := 9) rfl ?_
      exact p_iret (z_dec zd_X8_back 4 rfl) rfl ⟨(by unfold f_X8_back; rw [if_pos h4]), rfl, (z_3 (by unfold m_X8_back; rw [if_pos h4]) rfl)⟩
  exact hentry
def f_X8_undo (I : Nat → Nat → Int32) (dn : Nat) : Int32 := if (nI dn) = 0 then (-5) else ((m_X0_undoOn I dn) 33 4)
def m_X8_undo (I : Nat → Nat → Int32) (dn : Nat) : Nat → Nat → Int32 := if (nI dn) = 0 then I else (m_X0_undoOn I dn)
set_option maxHeartbeats 4000000 in
set_option maxRecDepth 100000 in
theorem c_X8_undo (d : Nat) (hd : 3 ≤ d) (b : Bool) (I : Nat → Nat → Int32) (L : Nat → Nat → Int64) (np : Nat) (hnp : I 1 0 = nI np) (hn10 : np ≤ 10) (dn : Nat) (hdn : I 33 4 = nI dn) (hd40 : dn ≤ 40) : z_CT zm_X8_undo d [.ref 0] SH (I, L, z_R b) 0 0 (z_ret (some (.int (f_X8_undo I dn))) ((m_X8_undo I dn), L, z_R b)) := by
  refine z_enter (by decide +kernel) (Nat.le_of_ble_eq_true rfl) ?_
  have hentry : PW zm_X8_undo d 0 [(0, .ref 0)] [] SH (I, L, z_R b) 0 0 (z_ret (some (.int (f_X8_undo I dn))) ((m_X8_undo I dn), L, z_R b)) := by
    refine p_aload_n (z_dec zd_X8_undo 0 rfl) rfl 0 rfl (n := 1) rfl ?_
    refine q_getR (z_dec zd_X8_undo 1 rfl) zf_X8_54 (i := 33) rfl rfl (n := 4) rfl ?_
    refine q_getI (z_dec zd_X8_undo 2 rfl) zf_X8_261 (by decide) rfl (v := (nI dn)) hdn (n := 7) rfl ?_
    refine p_if_ne (z_dec zd_X8_undo 3 rfl) (t := 13) (by decide) (n := 10) rfl (fun h7 => ?_) (fun h7 => ?_)
    · refine p_aload_n (z_dec zd_X8_undo 6 rfl) rfl 0 rfl (n := 14) rfl ?_
      refine q_getR (z_dec zd_X8_undo 7 rfl) zf_X8_54 (i := 33) rfl rfl (n := 17) rfl ?_
      refine p_aload_n (z_dec zd_X8_undo 8 rfl) rfl 0 rfl (n := 18) rfl ?_
      refine q_getR (z_dec zd_X8_undo 9 rfl) zf_X8_10 (i := 1) rfl rfl (n := 21) rfl ?_
      refine q_callV (As := [.ref 1]) (rest := []) (z_dec zd_X8_undo 10 rfl) zk_X8_264 zv_X0_undoOn (c_X0_undoOn (d - 1) (by omega) b I L np hnp hn10 dn hdn hd40) rfl ⟨_, _, rfl⟩ rfl rfl (Nat.le_of_ble_eq_true rfl) (by omega) (n := 24) rfl ?_
      show PW zm_X8_undo d 24 [(0, .ref 0)] [] SH ((m_X0_undoOn I dn), L, z_R b) 0 0 _
      refine p_aload_n (z_dec zd_X8_undo 11 rfl) rfl 0 rfl (n := 25) rfl ?_
      refine q_getR (z_dec zd_X8_undo 12 rfl) zf_X8_54 (i := 33) rfl rfl (n := 28) rfl ?_
      refine q_getI (z_dec zd_X8_undo 13 rfl) zf_X8_261 (by decide) rfl (v := ((m_X0_undoOn I dn) 33 4)) rfl (n := 31) rfl ?_
      exact p_iret (z_dec zd_X8_undo 14 rfl) rfl ⟨(by unfold f_X8_undo; rw [if_neg h7]), rfl, (z_3 (by unfold m_X8_undo; rw [if_neg h7]) rfl)⟩
    · refine p_bipush (z_dec zd_X8_undo 4 rfl) (v := (-5)) (by decide) (n := 12) rfl ?_
      exact p_iret (z_dec zd_X8_undo 5 rfl) rfl ⟨(by unfold f_X8_undo; rw [if_pos h7]), rfl, (z_3 (by unfold m_X8_undo; rw [if_pos h7]) rfl)⟩
  exact hentry
def f_X8_redo (I : Nat → Nat → Int32) (dn : Nat) : Int32 := if (I 33 5) = 0 then (-5) else ((m_X0_redoOn I dn) 33 5)
def m_X8_redo (I : Nat → Nat → Int32) (dn : Nat) : Nat → Nat → Int32 := if (I 33 5) = 0 then I else (m_X0_redoOn I dn)
set_option maxHeartbeats 4000000 in
set_option maxRecDepth 100000 in
theorem c_X8_redo (d : Nat) (hd : 3 ≤ d) (b : Bool) (I : Nat → Nat → Int32) (L : Nat → Nat → Int64) (np : Nat) (hnp : I 1 0 = nI np) (hn10 : np ≤ 10) (dn : Nat) (hdn : I 33 4 = nI dn) (hd40 : dn ≤ 40) : z_CT zm_X8_redo d [.ref 0] SH (I, L, z_R b) 0 0 (z_ret (some (.int (f_X8_redo I dn))) ((m_X8_redo I dn), L, z_R b)) := by
  refine z_enter (by decide +kernel) (Nat.le_of_ble_eq_true rfl) ?_
  have hentry : PW zm_X8_redo d 0 [(0, .ref 0)] [] SH (I, L, z_R b) 0 0 (z_ret (some (.int (f_X8_redo I dn))) ((m_X8_redo I dn), L, z_R b)) := by
    refine p_aload_n (z_dec zd_X8_redo 0 rfl) rfl 0 rfl (n := 1) rfl ?_
    refine q_getR (z_dec zd_X8_redo 1 rfl) zf_X8_54 (i := 33) rfl rfl (n := 4) rfl ?_
    refine q_getI (z_dec zd_X8_redo 2 rfl) zf_X8_267 (by decide) rfl (v := (I 33 5)) rfl (n := 7) rfl ?_
    refine p_if_ne (z_dec zd_X8_redo 3 rfl) (t := 13) (by decide) (n := 10) rfl (fun h7 => ?_) (fun h7 => ?_)
    · refine p_aload_n (z_dec zd_X8_redo 6 rfl) rfl 0 rfl (n := 14) rfl ?_
      refine q_getR (z_dec zd_X8_redo 7 rfl) zf_X8_54 (i := 33) rfl rfl (n := 17) rfl ?_
      refine p_aload_n (z_dec zd_X8_redo 8 rfl) rfl 0 rfl (n := 18) rfl ?_
      refine q_getR (z_dec zd_X8_redo 9 rfl) zf_X8_10 (i := 1) rfl rfl (n := 21) rfl ?_
      refine q_callV (As := [.ref 1]) (rest := []) (z_dec zd_X8_redo 10 rfl) zk_X8_270 zv_X0_redoOn (c_X0_redoOn (d - 1) (by omega) b I L np hnp hn10 dn hdn hd40) rfl ⟨_, _, rfl⟩ rfl rfl (Nat.le_of_ble_eq_true rfl) (by omega) (n := 24) rfl ?_
      show PW zm_X8_redo d 24 [(0, .ref 0)] [] SH ((m_X0_redoOn I dn), L, z_R b) 0 0 _
      refine p_aload_n (z_dec zd_X8_redo 11 rfl) rfl 0 rfl (n := 25) rfl ?_
      refine q_getR (z_dec zd_X8_redo 12 rfl) zf_X8_54 (i := 33) rfl rfl (n := 28) rfl ?_
      refine q_getI (z_dec zd_X8_redo 13 rfl) zf_X8_267 (by decide) rfl (v := ((m_X0_redoOn I dn) 33 5)) rfl (n := 31) rfl ?_
      exact p_iret (z_dec zd_X8_redo 14 rfl) rfl ⟨(by unfold f_X8_redo; rw [if_neg h7]), rfl, (z_3 (by unfold m_X8_redo; rw [if_neg h7]) rfl)⟩
    · refine p_bipush (z_dec zd_X8_redo 4 rfl) (v := (-5)) (by decide) (n := 12) rfl ?_
      exact p_iret (z_dec zd_X8_redo 5 rfl) rfl ⟨(by unfold f_X8_redo; rw [if_pos h7]), rfl, (z_3 (by unfold m_X8_redo; rw [if_pos h7]) rfl)⟩
  exact hentry
def f_X8_body (I : Nat → Nat → Int32) (sz : Nat) (kind : Int32) : Int32 := if (f_X5_isKind kind) = 0 then (-1) else (f_X5_add I sz kind)
def m_X8_body (I : Nat → Nat → Int32) (sz : Nat) (kind : Int32) : Nat → Nat → Int32 := if (f_X5_isKind kind) = 0 then I else (m_X5_add I sz kind)
set_option maxHeartbeats 4000000 in
set_option maxRecDepth 100000 in
theorem c_X8_body (d : Nat) (hd : 1 ≤ d) (b : Bool) (I : Nat → Nat → Int32) (L : Nat → Nat → Int64) (sz : Nat) (hsz : I 38 1 = nI sz) (hs50 : sz ≤ 50) (kind : Int32) : z_CT zm_X8_body d [.ref 0, .int kind] SH (I, L, z_R b) 0 0 (z_ret (some (.int (f_X8_body I sz kind))) ((m_X8_body I sz kind), L, z_R b)) := by
  refine z_enter (by decide +kernel) (Nat.le_of_ble_eq_true rfl) ?_
  have hentry : PW zm_X8_body d 0 [(0, .ref 0), (1, .int kind)] [] SH (I, L, z_R b) 0 0 (z_ret (some (.int (f_X8_body I sz kind))) ((m_X8_body I sz kind), L, z_R b)) := by
    refine p_iload_n (z_dec zd_X8_body 0 rfl) rfl 1 rfl (n := 1) rfl ?_
    refine q_callS (As := [.int kind]) (rest := []) (z_dec zd_X8_body 1 rfl) zk_X8_273 zs_X5_isKind (c_X5_isKind (d - 1) (by omega) b I L kind) rfl rfl (Nat.le_of_ble_eq_true rfl) (by omega) (n := 4) rfl ?_
    show PW zm_X8_body d 4 [(0, .ref 0), (1, .int kind)] [.int (f_X5_isKind kind)] SH (I, L, z_R b) 0 0 _
    refine p_if_eq (z_dec zd_X8_body 2 rfl) (t := 18) (by decide) (n := 7) rfl (fun h4 => ?_) (fun h4 => ?_)
    · refine p_iconst (z_dec zd_X8_body 8 rfl) (v := (-1)) (by decide) (n := 19) rfl ?_
      exact p_iret (z_dec zd_X8_body 9 rfl) rfl ⟨(by unfold f_X8_body; rw [if_pos h4]), rfl, (z_3 (by unfold m_X8_body; rw [if_pos h4]) rfl)⟩
    · refine p_aload_n (z_dec zd_X8_body 3 rfl) rfl 0 rfl (n := 8) rfl ?_
      refine q_getR (z_dec zd_X8_body 4 rfl) zf_X8_61 (i := 38) rfl rfl (n := 11) rfl ?_
      refine p_iload_n (z_dec zd_X8_body 5 rfl) rfl 1 rfl (n := 12) rfl ?_
      refine q_callV (As := [.int kind]) (rest := []) (z_dec zd_X8_body 6 rfl) zk_X8_276 zv_X5_add (c_X5_add (d - 1) (by omega) b I L sz hsz hs50 kind) rfl ⟨_, _, rfl⟩ rfl rfl (Nat.le_of_ble_eq_true rfl) (by omega) (n := 15) rfl ?_
      show PW zm_X8_body d 15 [(0, .ref 0), (1, .int kind)] [.int (f_X5_add I sz kind)] SH ((m_X5_add I sz kind), L, z_R b) 0 0 _
      refine p_goto (z_dec zd_X8_body 7 rfl) (t := 19) (by decide) ?_
      exact p_iret (z_dec zd_X8_body 9 rfl) rfl ⟨(by unfold f_X8_body; rw [if_neg h4]), rfl, (z_3 (by unfold m_X8_body; rw [if_neg h4]) rfl)⟩
  exact hentry
def f_X8_trace (I : Nat → Nat → Int32) (i : Int32) : Int32 := (f_X5_tracedAt I i)
set_option maxHeartbeats 4000000 in
set_option maxRecDepth 100000 in
theorem c_X8_trace (d : Nat) (hd : 1 ≤ d) (b : Bool) (I : Nat → Nat → Int32) (L : Nat → Nat → Int64) (i : Int32) : z_CT zm_X8_trace d [.ref 0, .int i] SH (I, L, z_R b) 0 0 (z_ret (some (.int (f_X8_trace I i))) (I, L, z_R b)) := by
  refine z_enter (by decide +kernel) (Nat.le_of_ble_eq_true rfl) ?_
  have hentry : PW zm_X8_trace d 0 [(0, .ref 0), (1, .int i)] [] SH (I, L, z_R b) 0 0 (z_ret (some (.int (f_X8_trace I i))) (I, L, z_R b)) := by
    refine p_aload_n (z_dec zd_X8_trace 0 rfl) rfl 0 rfl (n := 1) rfl ?_
    refine q_getR (z_dec zd_X8_trace 1 rfl) zf_X8_61 (i := 38) rfl rfl (n := 4) rfl ?_
    refine p_iload_n (z_dec zd_X8_trace 2 rfl) rfl 1 rfl (n := 5) rfl ?_
    refine q_callV (As := [.int i]) (rest := []) (z_dec zd_X8_trace 3 rfl) zk_X8_282 zv_X5_tracedAt (c_X5_tracedAt (d - 1) (by omega) b I L i) rfl ⟨_, _, rfl⟩ rfl rfl (Nat.le_of_ble_eq_true rfl) (by omega) (n := 8) rfl ?_
    show PW zm_X8_trace d 8 [(0, .ref 0), (1, .int i)] [.int (f_X5_tracedAt I i)] SH (I, L, z_R b) 0 0 _
    exact p_iret (z_dec zd_X8_trace 4 rfl) rfl ⟨(by unfold f_X8_trace; rfl), rfl, rfl⟩
  exact hentry
def f_X8_keep (I : Nat → Nat → Int32) (sh : Int32) (w : Int32) : Int32 := if (f_X8_isShelf sh) = 0 then (-1) else if w = (-1) then 1 else if (f_X5_has I w) = 0 then (-1) else 1
def m_X8_keep (I : Nat → Nat → Int32) (sh : Int32) (w : Int32) : Nat → Nat → Int32 := if (f_X8_isShelf sh) = 0 then I else if w = (-1) then (m_X4_holdStool I (42 + 2 * sh.toNatClampNeg) w) else if (f_X5_has I w) = 0 then I else (m_X4_holdStool I (42 + 2 * sh.toNatClampNeg) w)
set_option maxHeartbeats 4000000 in
set_option maxRecDepth 100000 in
theorem c_X8_keep (d : Nat) (hd : 1 ≤ d) (b : Bool) (I : Nat → Nat → Int32) (L : Nat → Nat → Int64) (sh : Int32) (w : Int32) : z_CT zm_X8_keep d [.ref 0, .int sh, .int w] SH (I, L, z_R b) 0 0 (z_ret (some (.int (f_X8_keep I sh w))) ((m_X8_keep I sh w), L, z_R b)) := by
  refine z_enter (by decide +kernel) (Nat.le_of_ble_eq_true rfl) ?_
  have hentry : PW zm_X8_keep d 0 [(0, .ref 0), (1, .int sh), (2, .int w)] [] SH (I, L, z_R b) 0 0 (z_ret (some (.int (f_X8_keep I sh w))) ((m_X8_keep I sh w), L, z_R b)) := by
    refine p_iload_n (z_dec zd_X8_keep 0 rfl) rfl 1 rfl (n := 1) rfl ?_
    refine q_callS (As := [.int sh]) (rest := []) (z_dec zd_X8_keep 1 rfl) zk_X8_80 zs_X8_isShelf (c_X8_isShelf (d - 1) (by omega) b I L sh) rfl rfl (Nat.le_of_ble_eq_true rfl) (by omega) (n := 4) rfl ?_
    show PW zm_X8_keep d 4 [(0, .ref 0), (1, .int sh), (2, .int w)] [.int (f_X8_isShelf sh)] SH (I, L, z_R b) 0 0 _
    refine p_if_eq (z_dec zd_X8_keep 2 rfl) (t := 23) (by decide) (n := 7) rfl (fun h4 => ?_) (fun h4 => ?_)
    · refine p_iconst (z_dec zd_X8_keep 11 rfl) (v := (-1)) (by decide) (n := 24) rfl ?_
      exact p_iret (z_dec zd_X8_keep 12 rfl) rfl ⟨(by unfold f_X8_keep; rw [if_pos h4]), rfl, (z_3 (by unfold m_X8_keep; rw [if_pos h4]) rfl)⟩
    · have hj_sh := z_shc h4
      refine p_iload_n (z_dec zd_X8_keep 3 rfl) rfl 2 rfl (n := 8) rfl ?_
      refine p_iconst (z_dec zd_X8_keep 4 rfl) (v := (-1)) (by decide) (n := 9) rfl ?_
      refine p_icmp_eq (z_dec zd_X8_keep 5 rfl) (t := 25) (by decide) (n := 12) rfl (fun h9 => ?_) (fun h9 => ?_)
      · refine p_aload_n (z_dec zd_X8_keep 13 rfl) rfl 0 rfl (n := 26) rfl ?_
        refine q_getR (z_dec zd_X8_keep 14 rfl) zf_X8_67 (i := 41) rfl rfl (n := 29) rfl ?_
        refine p_iload_n (z_dec zd_X8_keep 15 rfl) rfl 1 rfl (n := 30) rfl ?_
        refine q_aald (z_dec zd_X8_keep 16 rfl) rfl (by decide) (sh.toNatClampNeg) hj_sh.1 hj_sh.2 (a := (42 + 2 * sh.toNatClampNeg)) (if_pos hj_sh.2) (n := 31) rfl ?_
        refine p_iload_n (z_dec zd_X8_keep 17 rfl) rfl 2 rfl (n := 32) rfl ?_
        refine q_callV (As := [.int w]) (rest := []) (z_dec zd_X8_keep 18 rfl) zk_X8_286 zv_X4_holdStool (c_X4_holdStool (d - 1) (by omega) b I L (42 + 2 * sh.toNatClampNeg) (z_SfOf b _ hj_sh.2) w) (z_SfOf b _ hj_sh.2).1 ⟨_, _, rfl⟩ rfl rfl (Nat.le_of_ble_eq_true rfl) (by omega) (n := 35) rfl ?_
        show PW zm_X8_keep d 35 [(0, .ref 0), (1, .int sh), (2, .int w)] [] SH ((m_X4_holdStool I (42 + 2 * sh.toNatClampNeg) w), L, z_R b) 0 0 _
        refine p_iconst (z_dec zd_X8_keep 19 rfl) (v := 1) (by decide) (n := 36) rfl ?_
        exact p_iret (z_dec zd_X8_keep 20 rfl) rfl ⟨(by unfold f_X8_keep; rw [if_neg h4, if_pos h9]), rfl, (z_3 (by unfold m_X8_keep; rw [if_neg h4, if_pos h9]) rfl)⟩
      · refine p_aload_n (z_dec zd_X8_keep 6 rfl) rfl 0 rfl (n := 13) rfl ?_
        refine q_getR (z_dec zd_X8_keep 7 rfl) zf_X8_61 (i := 38) rfl rfl (n := 16) rfl ?_
        refine p_iload_n (z_dec zd_X8_keep 8 rfl) rfl 2 rfl (n := 17) rfl ?_
        refine q_callV (As := [.int w]) (rest := []) (z_dec zd_X8_keep 9 rfl) zk_X8_285 zv_X5_has (c_X5_has (d - 1) (by omega) b I L w) rfl ⟨_, _, rfl⟩ rfl rfl (Nat.le_of_ble_eq_true rfl) (by omega) (n := 20) rfl ?_
        show PW zm_X8_keep d 20 [(0, .ref 0), (1, .int sh), (2, .int w)] [.int (f_X5_has I w)] SH (I, L, z_R b) 0 0 _
        refine p_if_ne (z_dec zd_X8_keep 10 rfl) (t := 25) (by decide) (n := 23) rfl (fun h20 => ?_) (fun h20 => ?_)
        · refine p_aload_n (z_dec zd_X8_keep 13 rfl) rfl 0 rfl (n := 26) rfl ?_
          refine q_getR (z_dec zd_X8_keep 14 rfl) zf_X8_67 (i := 41) rfl rfl (n := 29) rfl ?_
          refine p_iload_n (z_dec zd_X8_keep 15 rfl) rfl 1 rfl (n := 30) rfl ?_
          refine q_aald (z_dec zd_X8_keep 16 rfl) rfl (by decide) (sh.toNatClampNeg) hj_sh.1 hj_sh.2 (a := (42 + 2 * sh.toNatClampNeg)) (if_pos hj_sh.2) (n := 31) rfl ?_
          refine p_iload_n (z_dec zd_X8_keep 17 rfl) rfl 2 rfl (n := 32) rfl ?_
          refine q_callV (As := [.int w]) (rest := []) (z_dec zd_X8_keep 18 rfl) zk_X8_286 zv_X4_holdStool (c_X4_holdStool (d - 1) (by omega) b I L (42 + 2 * sh.toNatClampNeg) (z_SfOf b _ hj_sh.2) w) (z_SfOf b _ hj_sh.2).1 ⟨_, _, rfl⟩ rfl rfl (Nat.le_of_ble_eq_true rfl) (by omega) (n := 35) rfl ?_
          show PW zm_X8_keep d 35 [(0, .ref 0), (1, .int sh), (2, .int w)] [] SH ((m_X4_holdStool I (42 + 2 * sh.toNatClampNeg) w), L, z_R b) 0 0 _
          refine p_iconst (z_dec zd_X8_keep 19 rfl) (v := 1) (by decide) (n := 36) rfl ?_
          exact p_iret (z_dec zd_X8_keep 20 rfl) rfl ⟨(by unfold f_X8_keep; rw [if_neg h4, if_neg h9, if_neg h20]), rfl, (z_3 (by unfold m_X8_keep; rw [if_neg h4, if_neg h9, if_neg h20]) rfl)⟩
        · refine p_iconst (z_dec zd_X8_keep 11 rfl) (v := (-1)) (by decide) (n := 24) rfl ?_
          exact p_iret (z_dec zd_X8_keep 12 rfl) rfl ⟨(by unfold f_X8_keep; rw [if_neg h4, if_neg h9, if_pos h20]), rfl, (z_3 (by unfold m_X8_keep; rw [if_neg h4, if_neg h9, if_pos h20]) rfl)⟩
  exact hentry
def f_X8_row (I : Nat → Nat → Int32) (L : Nat → Nat → Int64) (sh : Int32) (sort : Int32) (n : Int32) : Int32 := if (f_X8_isShelf sh) = 0 then (-1) else if sort < 0 then (-1) else if 4 < sort then (-1) else if n ≤ 60 then if 0 ≤ n then 1 else (-14) else (-1)
def m_X8_row (I : Nat → Nat → Int32) (L : Nat → Nat → Int64) (sh : Int32) (sort : Int32) (n : Int32) : Nat → Nat → Int32 := if (f_X8_isShelf sh) = 0 then I else if sort < 0 then I else if 4 < sort then I else if n ≤ 60 then if 0 ≤ n then (m_X4_holdRow I L (42 + 2 * sh.toNatClampNeg) sort n) else I else I
def n_X8_row (I : Nat → Nat → Int32) (L : Nat → Nat → Int64) (sh : Int32) (sort : Int32) (n : Int32) : Nat → Nat → Int64 := if (f_X8_isShelf sh) = 0 then L else if sort < 0 then L else if 4 < sort then L else if n ≤ 60 then if 0 ≤ n then (n_X4_holdRow I L (42 + 2 * sh.toNatClampNeg) sort n) else L else L
set_option maxHeartbeats 4000000 in
set_option maxRecDepth 100000 in
theorem c_X8_row (d : Nat) (hd : 1 ≤ d) (b : Bool) (I : Nat → Nat → Int32) (L : Nat → Nat → Int64) (sh : Int32) (sort : Int32) (n : Int32) : z_CT zm_X8_row d [.ref 0, .int sh, .int sort, .int n] SH (I, L, z_R b) 0 0 (z_ret (some (.int (f_X8_row I L sh sort n))) ((m_X8_row I L sh sort n), (n_X8_row I L sh sort n), z_R b)) := by
  refine z_enter (by decide +kernel) (Nat.le_of_ble_eq_true rfl) ?_
  have hentry : PW zm_X8_row d 0 [(0, .ref 0), (1, .int sh), (2, .int sort), (3, .int n)] [] SH (I, L, z_R b) 0 0 (z_ret (some (.int (f_X8_row I L sh sort n))) ((m_X8_row I L sh sort n), (n_X8_row I L sh sort n), z_R b)) := by
    refine p_iload_n (z_dec zd_X8_row 0 rfl) rfl 1 rfl (n := 1) rfl ?_
    refine q_callS (As := [.int sh]) (rest := []) (z_dec zd_X8_row 1 rfl) zk_X8_80 zs_X8_isShelf (c_X8_isShelf (d - 1) (by omega) b I L sh) rfl rfl (Nat.le_of_ble_eq_true rfl) (by omega) (n := 4) rfl ?_
    show PW zm_X8_row d 4 [(0, .ref 0), (1, .int sh), (2, .int sort), (3, .int n)] [.int (f_X8_isShelf sh)] SH (I, L, z_R b) 0 0 _
    refine p_if_eq (z_dec zd_X8_row 2 rfl) (t := 22) (by decide) (n := 7) rfl (fun h4 => ?_) (fun h4 => ?_)
    · refine p_iconst (z_dec zd_X8_row 11 rfl) (v := (-1)) (by decide) (n := 23) rfl ?_
      exact p_iret (z_dec zd_X8_row 12 rfl) rfl ⟨(by unfold f_X8_row; rw [if_pos h4]), rfl, (z_3 (by unfold m_X8_row; rw [if_pos h4]) (by unfold n_X8_row; rw [if_pos h4]))⟩
    · have hj_sh := z_shc h4
      refine p_iload_n (z_dec zd_X8_row 3 rfl) rfl 2 rfl (n := 8) rfl ?_
      refine p_if_lt (z_dec zd_X8_row 4 rfl) (t := 22) (by decide) (n := 11) rfl (fun h8 => ?_) (fun h8 => ?_)
      · refine p_iconst (z_dec zd_X8_row 11 rfl) (v := (-1)) (by decide) (n := 23) rfl ?_
        exact p_iret (z_dec zd_X8_row 12 rfl) rfl ⟨(by unfold f_X8_row; rw [if_neg h4, if_pos h8]), rfl, (z_3 (by unfold m_X8_row; rw [if_neg h4, if_pos h8]) (by unfold n_X8_row; rw [if_neg h4, if_pos h8]))⟩
      · refine p_iload_n (z_dec zd_X8_row 5 rfl) rfl 2 rfl (n := 12) rfl ?_
        refine p_iconst (z_dec zd_X8_row 6 rfl) (v := 4) (by decide) (n := 13) rfl ?_
        refine p_icmp_gt (z_dec zd_X8_row 7 rfl) (t := 22) (by decide) (n := 16) rfl (fun h13 => ?_) (fun h13 => ?_)
        · refine p_iconst (z_dec zd_X8_row 11 rfl) (v := (-1)) (by decide) (n := 23) rfl ?_
          exact p_iret (z_dec zd_X8_row 12 rfl) rfl ⟨(by unfold f_X8_row; rw [if_neg h4, if_neg h8, if_pos h13]), rfl, (z_3 (by unfold m_X8_row; rw [if_neg h4, if_neg h8, if_pos h13]) (by unfold n_X8_row; rw [if_neg h4, if_neg h8, if_pos h13]))⟩
        · refine p_iload_n (z_dec zd_X8_row 8 rfl) rfl 3 rfl (n := 17) rfl ?_
          refine p_bipush (z_dec zd_X8_row 9 rfl) (v := 60) (by decide) (n := 19) rfl ?_
          refine p_icmp_le (z_dec zd_X8_row 10 rfl) (t := 24) (by decide) (n := 22) rfl (fun h19 => ?_) (fun h19 => ?_)
          · refine p_iload_n (z_dec zd_X8_row 13 rfl) rfl 3 rfl (n := 25) rfl ?_
            refine p_if_ge (z_dec zd_X8_row 14 rfl) (t := 31) (by decide) (n := 28) rfl (fun h25 => ?_) (fun h25 => ?_)
            · refine p_aload_n (z_dec zd_X8_row 17 rfl) rfl 0 rfl (n := 32) rfl ?_
              refine q_getR (z_dec zd_X8_row 18 rfl) zf_X8_67 (i := 41) rfl rfl (n := 35) rfl ?_
              refine p_iload_n (z_dec zd_X8_row 19 rfl) rfl 1 rfl (n := 36) rfl ?_
              refine q_aald (z_dec zd_X8_row 20 rfl) rfl (by decide) (sh.toNatClampNeg) hj_sh.1 hj_sh.2 (a := (42 + 2 * sh.toNatClampNeg)) (if_pos hj_sh.2) (n := 37) rfl ?_
              refine p_iload_n (z_dec zd_X8_row 21 rfl) rfl 2 rfl (n := 38) rfl ?_
              refine p_iload_n (z_dec zd_X8_row 22 rfl) rfl 3 rfl (n := 39) rfl ?_
              refine q_callV (As := [.int sort, .int n]) (rest := []) (z_dec zd_X8_row 23 rfl) zk_X8_290 zv_X4_holdRow (c_X4_holdRow (d - 1) (by omega) b I L (42 + 2 * sh.toNatClampNeg) (z_SfOf b _ hj_sh.2) sort n) (z_SfOf b _ hj_sh.2).1 ⟨_, _, rfl⟩ rfl rfl (Nat.le_of_ble_eq_true rfl) (by omega) (n := 42) rfl ?_
              show PW zm_X8_row d 42 [(0, .ref 0), (1, .int sh), (2, .int sort), (3, .int n)] [] SH ((m_X4_holdRow I L (42 + 2 * sh.toNatClampNeg) sort n), (n_X4_holdRow I L (42 + 2 * sh.toNatClampNeg) sort n), z_R b) 0 0 _
              refine p_iconst (z_dec zd_X8_row 24 rfl) (v := 1) (by decide) (n := 43) rfl ?_
              exact p_iret (z_dec zd_X8_row 25 rfl) rfl ⟨(by unfold f_X8_row; rw [if_neg h4, if_neg h8, if_neg h13, if_pos h19, if_pos h25]), rfl, (z_3 (by unfold m_X8_row; rw [if_neg h4, if_neg h8, if_neg h13, if_pos h19, if_pos h25]) (by unfold n_X8_row; rw [if_neg h4, if_neg h8, if_neg h13, if_pos h19, if_pos h25]))⟩
            · refine p_bipush (z_dec zd_X8_row 15 rfl) (v := (-14)) (by decide) (n := 30) rfl ?_
              exact p_iret (z_dec zd_X8_row 16 rfl) rfl ⟨(by unfold f_X8_row; rw [if_neg h4, if_neg h8, if_neg h13, if_pos h19, if_neg h25]), rfl, (z_3 (by unfold m_X8_row; rw [if_neg h4, if_neg h8, if_neg h13, if_pos h19, if_neg h25]) (by unfold n_X8_row; rw [if_neg h4, if_neg h8, if_neg h13, if_pos h19, if_neg h25]))⟩
          · refine p_iconst (z_dec zd_X8_row 11 rfl) (v := (-1)) (by decide) (n := 23) rfl ?_
            exact p_iret (z_dec zd_X8_row 12 rfl) rfl ⟨(by unfold f_X8_row; rw [if_neg h4, if_neg h8, if_neg h13, if_neg h19]), rfl, (z_3 (by unfold m_X8_row; rw [if_neg h4, if_neg h8, if_neg h13, if_neg h19]) (by unfold n_X8_row; rw [if_neg h4, if_neg h8, if_neg h13, if_neg h19]))⟩
  exact hentry
