theorem z_gcd {x y : Int64} (h : 0 ≤ x ∧ 0 ≤ y ∧ (¬ x = 0 ∨ ¬ y = 0)) (hy : ¬ lg_cmp y 0 = 0) : (0 ≤ y ∧ 0 ≤ x - x / y * y ∧ (¬ y = 0 ∨ ¬ x - x / y * y = 0)) ∧ (x - x / y * y).toInt.toNat < y.toInt.toNat := by
  have hy0 : ¬ y = 0 := fun q => hy ((lg_cmp_eq _ _).mpr q)
  obtain ⟨a, ha, rfl⟩ := pk_lOf (Int64.not_lt.mpr h.1)
  obtain ⟨c, hc, rfl⟩ := pk_lOf (Int64.not_lt.mpr h.2.1)
  have hcp : 0 < c := by
    rcases Nat.eq_zero_or_pos c with e | e
    · exact absurd (by rw [e]; rfl) hy0
    · exact e
  have hm := Nat.mod_lt a hcp
  rw [pk_lRem ha hcp hc]
  refine ⟨⟨h.2.1, ?_, Or.inl hy0⟩, ?_⟩
  · exact (pk_lLE (a := 0) (b := a % c) (by omega) (by omega)).mpr (Nat.zero_le _)
  · rw [pk_lT (by omega), pk_lT hc]
    omega
theorem z_gnz {x y : Int64} (h : 0 ≤ x ∧ 0 ≤ y ∧ (¬ x = 0 ∨ ¬ y = 0)) (hy : lg_cmp y 0 = 0) : ¬ x = 0 := by
  have q := (lg_cmp_eq _ _).mp hy
  rcases h.2.2 with g | g
  · exact g
  · exact absurd q g
def gx_X9_partOf_16 (above : Int64) (below : Int64) (part : Int32) : Nat → Nat → (Int64) → (Int64) → Int64
  | 0, t16, v5, v7 => 0
  | r16 + 1, t16, v5, v7 => if (lg_cmp v7 0) = 0 then if part = 0 then (above / v5) else (below / v5) else gx_X9_partOf_16 above below part r16 (t16 + 1) v7 (v5 - v5 / v7 * v7)
def f_X9_partOf (above : Int64) (below : Int64) (part : Int32) : Int64 := if (lg_cmp above 0) = 0 then (part.toInt64) else (gx_X9_partOf_16 above below part (below.toInt.toNat + 1) 0 above below)
set_option maxHeartbeats 2000000 in
set_option maxRecDepth 100000 in
theorem c_X9_partOf (d : Nat) (hd : 0 ≤ d) (b : Bool) (I : Nat → Nat → Int32) (L : Nat → Nat → Int64) (above : Int64) (below : Int64) (part : Int32) (ha : 0 ≤ above) (hbl : 0 ≤ below) : z_CT zm_X9_partOf d [.long above, .long below, .int part] SH (I, L, z_R b) 0 0 (z_ret (some (.long (f_X9_partOf above below part))) (I, L, z_R b)) := by
  refine z_enter (by decide +kernel) (Nat.le_of_ble_eq_true rfl) ?_
  have hentry : PW zm_X9_partOf d 0 [(0, .long above), (2, .long below), (4, .int part)] [] SH (I, L, z_R b) 0 0 (z_ret (some (.long (f_X9_partOf above below part))) (I, L, z_R b)) := by
    refine p_lload_n (z_dec zd_X9_partOf 0 rfl) rfl 0 rfl (n := 1) rfl ?_
    refine p_lconst (z_dec zd_X9_partOf 1 rfl) (v := 0) (by decide) (n := 2) rfl ?_
    refine p_lcmp (z_dec zd_X9_partOf 2 rfl) (n := 3) rfl ?_
    refine p_if_ne (z_dec zd_X9_partOf 3 rfl) (t := 10) (by decide) (n := 6) rfl (fun h3 => ?_) (fun h3 => ?_)
    · refine p_lload_n (z_dec zd_X9_partOf 7 rfl) rfl 0 rfl (n := 11) rfl ?_
      refine p_lstore (z_dec zd_X9_partOf 8 rfl) (lv2 := [(5, .long above), (0, .long above), (2, .long below), (4, .int part)]) (by decide) rfl (n := 13) rfl ?_
      refine p_lload_n (z_dec zd_X9_partOf 9 rfl) rfl 2 rfl (n := 14) rfl ?_
      refine p_lstore (z_dec zd_X9_partOf 10 rfl) (lv2 := [(7, .long below), (5, .long above), (0, .long above), (2, .long below), (4, .int part)]) (by decide) rfl (n := 16) rfl ?_
      have hL16 : ∀ (r16 t16 : Nat) (v5 : Int64) (v7 : Int64), v7.toInt.toNat < r16 → (0 ≤ v5 ∧ 0 ≤ v7 ∧ (¬ v5 = 0 ∨ ¬ v7 = 0)) → PW zm_X9_partOf d 16 [(7, .long v7), (5, .long v5), (0, .long above), (2, .long below), (4, .int part)] [] SH (I, L, z_R b) 0 0 (z_ret (some (.long (gx_X9_partOf_16 above below part r16 t16 v5 v7))) (I, L, z_R b)) := by
        intro r16
        induction r16 with
        | zero =>
          intro t16 v5 v7 ht16 hlo
          exact absurd ht16 (Nat.not_lt_zero _)
        | succ r16 ih16 =>
          intro t16 v5 v7 ht16 hlo
          refine p_lload (z_dec zd_X9_partOf 11 rfl) 0 rfl (n := 18) rfl ?_
          refine p_lconst (z_dec zd_X9_partOf 12 rfl) (v := 0) (by decide) (n := 19) rfl ?_
          refine p_lcmp (z_dec zd_X9_partOf 13 rfl) (n := 20) rfl ?_
          refine p_if_eq (z_dec zd_X9_partOf 14 rfl) (t := 41) (by decide) (n := 23) rfl (fun h20 => ?_) (fun h20 => ?_)
          · refine p_iload (z_dec zd_X9_partOf 24 rfl) 4 rfl (n := 43) rfl ?_
            refine p_if_ne (z_dec zd_X9_partOf 25 rfl) (t := 53) (by decide) (n := 46) rfl (fun h43 => ?_) (fun h43 => ?_)
            · refine p_lload_n (z_dec zd_X9_partOf 30 rfl) rfl 3 rfl (n := 54) rfl ?_
              refine p_lload (z_dec zd_X9_partOf 31 rfl) 1 rfl (n := 56) rfl ?_
              refine p_ldiv (z_dec zd_X9_partOf 32 rfl) (z_gnz hlo h20) (n := 57) rfl ?_
              exact p_lret (z_dec zd_X9_partOf 33 rfl) rfl ⟨(by (conv => rhs; unfold gx_X9_partOf_16); rw [if_pos h20, if_neg h43]), rfl, rfl⟩
            · refine p_lload_n (z_dec zd_X9_partOf 26 rfl) rfl 2 rfl (n := 47) rfl ?_
              refine p_lload (z_dec zd_X9_partOf 27 rfl) 1 rfl (n := 49) rfl ?_
              refine p_ldiv (z_dec zd_X9_partOf 28 rfl) (z_gnz hlo h20) (n := 50) rfl ?_
              refine p_goto (z_dec zd_X9_partOf 29 rfl) (t := 57) (by decide) ?_
              exact p_lret (z_dec zd_X9_partOf 33 rfl) rfl ⟨(by (conv => rhs; unfold gx_X9_partOf_16); rw [if_pos h20, if_pos h43]), rfl, rfl⟩
          · refine p_lload (z_dec zd_X9_partOf 15 rfl) 1 rfl (n := 25) rfl ?_
            refine p_lload (z_dec zd_X9_partOf 16 rfl) 0 rfl (n := 27) rfl ?_
            refine p_lrem (z_dec zd_X9_partOf 17 rfl) (fun q => h20 ((lg_cmp_eq _ _).mpr q)) (n := 28) rfl ?_
            refine p_lstore (z_dec zd_X9_partOf 18 rfl) (lv2 := [(9, .long (v5 - v5 / v7 * v7)), (7, .long v7), (5, .long v5), (0, .long above), (2, .long below), (4, .int part)]) (by decide) rfl (n := 30) rfl ?_
            refine p_lload (z_dec zd_X9_partOf 19 rfl) 1 rfl (n := 32) rfl ?_
            refine p_lstore (z_dec zd_X9_partOf 20 rfl) (lv2 := [(5, .long v7), (9, .long (v5 - v5 / v7 * v7)), (7, .long v7), (0, .long above), (2, .long below), (4, .int part)]) (by decide) rfl (n := 34) rfl ?_
            refine p_lload (z_dec zd_X9_partOf 21 rfl) 1 rfl (n := 36) rfl ?_
            refine p_lstore (z_dec zd_X9_partOf 22 rfl) (lv2 := [(7, .long (v5 - v5 / v7 * v7)), (5, .long v7), (9, .long (v5 - v5 / v7 * v7)), (0, .long above), (2, .long below), (4, .int part)]) (by decide) rfl (n := 38) rfl ?_
            have hg := z_gcd hlo h20
            refine p_goto (z_dec zd_X9_partOf 23 rfl) (t := 16) (by decide) ?_
            refine z_sub (lv' := [(7, .long (v5 - v5 / v7 * v7)), (5, .long v7), (0, .long above), (2, .long below), (4, .int part)]) [0, 1, 3, 4, 5] rfl ?_
            rw [show gx_X9_partOf_16 above below part (r16 + 1) t16 v5 v7 = gx_X9_partOf_16 above below part r16 (t16 + 1) v7 (v5 - v5 / v7 * v7) from by (conv => lhs; unfold gx_X9_partOf_16); rw [if_neg h20]]
            exact ih16 (t16 + 1) v7 (v5 - v5 / v7 * v7) (by omega) hg.1
      exact (by have q := (hL16 (below.toInt.toNat + 1) 0 above below (Nat.lt_succ_self _) ⟨ha, hbl, Or.inl (fun q => h3 ((lg_cmp_eq _ _).mpr q))⟩); (rw [show f_X9_partOf above below part = _ from by unfold f_X9_partOf; rw [if_neg h3]]); exact q)
    · refine p_iload (z_dec zd_X9_partOf 4 rfl) 2 rfl (n := 8) rfl ?_
      refine p_i2l (z_dec zd_X9_partOf 5 rfl) (n := 9) rfl ?_
      exact p_lret (z_dec zd_X9_partOf 6 rfl) rfl ⟨(by unfold f_X9_partOf; rw [if_pos h3]), rfl, rfl⟩
  exact hentry
