theorem z_plr {I : Nat → Nat → Int32} {sh i : Int32} (h : f_X8_placeRefusal I sh i = 0) : ¬ f_X8_isShelf sh = 0 := by
  intro q
  unfold f_X8_placeRefusal at h
  rw [if_pos q] at h
  exact absurd h (by decide)
theorem z_hasS {I : Nat → Nat → Int32} {sz : Nat} {x : Int32} (hsz : I 38 1 = nI sz) (hs50 : sz ≤ 50) (h : ¬ f_X5_has I x = 0) : x = nI x.toNatClampNeg ∧ x.toNatClampNeg < 50 := by
  unfold f_X5_has at h
  rw [hsz] at h
  by_cases h1 : x < 0
  · rw [if_pos h1] at h; exact absurd rfl h
  · rw [if_neg h1] at h
    by_cases h2 : nI sz ≤ x
    · rw [if_pos h2] at h; exact absurd rfl h
    · obtain ⟨a1, a2⟩ := z_inN h1 h2 (by omega)
      exact ⟨a1, by omega⟩
theorem z_plcN {I : Nat → Nat → Int32} {k len : Nat} {i n : Int32} (hlen : I k 2 = nI len) (hl60 : len ≤ 60) (h : ¬ f_X4_hasPlaces I k i n = 0) : (i = nI i.toNatClampNeg ∧ n = nI n.toNatClampNeg) ∧ i.toNatClampNeg + n.toNatClampNeg ≤ len := by
  unfold f_X4_hasPlaces at h
  rw [hlen] at h
  by_cases h1 : i < 0
  · rw [if_pos h1] at h; exact absurd rfl h
  · rw [if_neg h1] at h
    by_cases h3 : n < 0
    · rw [if_pos h3] at h; exact absurd rfl h
    · rw [if_neg h3] at h
      by_cases h2 : nI len - n < i
      · rw [if_pos h2] at h; exact absurd rfl h
      · obtain ⟨j, hj, rfl⟩ := nI_of h1
        obtain ⟨q, hq, rfl⟩ := nI_of h3
        rw [nI_clamp hj, nI_clamp hq]
        refine ⟨⟨rfl, rfl⟩, ?_⟩
        rw [Int32.lt_iff_toInt_lt, nI_toInt hj] at h2
        have e : (nI len - nI q).toInt = (len : Int) - q := by
          rw [Int32.toInt_sub, nI_toInt (by omega), nI_toInt hq, Int.bmod_def]
          omega
        rw [e] at h2
        omega
def f_X8_element (I : Nat → Nat → Int32) (L : Nat → Nat → Int64) (sh : Int32) (i : Int32) : Int64 := if (f_X8_placeRefusal I sh i) = 0 then (f_X4_valueAt I L (42 + 2 * sh.toNatClampNeg) i) else (-9223372036854775808)
set_option maxHeartbeats 4000000 in
set_option maxRecDepth 100000 in
theorem c_X8_element (d : Nat) (hd : 2 ≤ d) (b : Bool) (I : Nat → Nat → Int32) (L : Nat → Nat → Int64) (hsl : ∀ j, j < 6 → I (42 + 2 * j) 2 = nI (I (42 + 2 * j) 2).toNatClampNeg ∧ (I (42 + 2 * j) 2).toNatClampNeg ≤ 60) (sh : Int32) (i : Int32) : z_CT zm_X8_element d [.ref 0, .int sh, .int i] SH (I, L, z_R b) 0 0 (z_ret (some (.long (f_X8_element I L sh i))) (I, L, z_R b)) := by
  refine z_enter (by decide +kernel) (Nat.le_of_ble_eq_true rfl) ?_
  have hentry : PW zm_X8_element d 0 [(0, .ref 0), (1, .int sh), (2, .int i)] [] SH (I, L, z_R b) 0 0 (z_ret (some (.long (f_X8_element I L sh i))) (I, L, z_R b)) := by
    refine p_aload_n (z_dec zd_X8_element 0 rfl) rfl 0 rfl (n := 1) rfl ?_
    refine p_iload_n (z_dec zd_X8_element 1 rfl) rfl 1 rfl (n := 2) rfl ?_
    refine p_iload_n (z_dec zd_X8_element 2 rfl) rfl 2 rfl (n := 3) rfl ?_
    refine q_callV (As := [.int sh, .int i]) (rest := []) (z_dec zd_X8_element 3 rfl) zk_X8_294 zv_X8_placeRefusal (c_X8_placeRefusal (d - 1) (by omega) b I L sh i) rfl ⟨_, _, rfl⟩ rfl rfl (Nat.le_of_ble_eq_true rfl) (by omega) (n := 6) rfl ?_
    show PW zm_X8_element d 6 [(0, .ref 0), (1, .int sh), (2, .int i)] [.int (f_X8_placeRefusal I sh i)] SH (I, L, z_R b) 0 0 _
    refine p_if_eq (z_dec zd_X8_element 4 rfl) (t := 15) (by decide) (n := 9) rfl (fun h6 => ?_) (fun h6 => ?_)
    · have hj_sh := z_shc (z_plr h6)
      refine p_aload_n (z_dec zd_X8_element 7 rfl) rfl 0 rfl (n := 16) rfl ?_
      refine q_getR (z_dec zd_X8_element 8 rfl) zf_X8_67 (i := 41) rfl rfl (n := 19) rfl ?_
      refine p_iload_n (z_dec zd_X8_element 9 rfl) rfl 1 rfl (n := 20) rfl ?_
      refine q_aald (z_dec zd_X8_element 10 rfl) rfl (by decide) (sh.toNatClampNeg) hj_sh.1 hj_sh.2 (a := (42 + 2 * sh.toNatClampNeg)) (if_pos hj_sh.2) (n := 21) rfl ?_
      refine p_iload_n (z_dec zd_X8_element 11 rfl) rfl 2 rfl (n := 22) rfl ?_
      refine q_callV (As := [.int i]) (rest := []) (z_dec zd_X8_element 12 rfl) zk_X8_95 zv_X4_valueAt (c_X4_valueAt (d - 1) (by omega) b I L (42 + 2 * sh.toNatClampNeg) (z_SfOf b _ hj_sh.2) ((I (42 + 2 * sh.toNatClampNeg) 2).toNatClampNeg) ((hsl _ hj_sh.2).1) ((hsl _ hj_sh.2).2) i) (z_SfOf b _ hj_sh.2).1 ⟨_, _, rfl⟩ rfl rfl (Nat.le_of_ble_eq_true rfl) (by omega) (n := 25) rfl ?_
      show PW zm_X8_element d 25 [(0, .ref 0), (1, .int sh), (2, .int i)] [.long (f_X4_valueAt I L (42 + 2 * sh.toNatClampNeg) i)] SH (I, L, z_R b) 0 0 _
      exact p_lret (z_dec zd_X8_element 13 rfl) rfl ⟨(by unfold f_X8_element; rw [if_pos h6]), rfl, rfl⟩
    · refine p_ldc2 (z_dec zd_X8_element 5 rfl) zq_X8_206 (n := 12) rfl ?_
      refine p_goto (z_dec zd_X8_element 6 rfl) (t := 25) (by decide) ?_
      exact p_lret (z_dec zd_X8_element 13 rfl) rfl ⟨(by unfold f_X8_element; rw [if_neg h6]), rfl, rfl⟩
  exact hentry
def f_X8_put (I : Nat → Nat → Int32) (L : Nat → Nat → Int64) (sh : Int32) (i : Int32) (v : Int64) : Int32 := if (f_X8_placeRefusal I sh i) = 0 then 1 else (f_X8_placeRefusal I sh i)
def n_X8_put (I : Nat → Nat → Int32) (L : Nat → Nat → Int64) (sh : Int32) (i : Int32) (v : Int64) : Nat → Nat → Int64 := if (f_X8_placeRefusal I sh i) = 0 then (n_X4_setAt I L (42 + 2 * sh.toNatClampNeg) i v) else L
set_option maxHeartbeats 4000000 in
set_option maxRecDepth 100000 in
theorem c_X8_put (d : Nat) (hd : 2 ≤ d) (b : Bool) (I : Nat → Nat → Int32) (L : Nat → Nat → Int64) (hsl : ∀ j, j < 6 → I (42 + 2 * j) 2 = nI (I (42 + 2 * j) 2).toNatClampNeg ∧ (I (42 + 2 * j) 2).toNatClampNeg ≤ 60) (sh : Int32) (i : Int32) (v : Int64) : z_CT zm_X8_put d [.ref 0, .int sh, .int i, .long v] SH (I, L, z_R b) 0 0 (z_ret (some (.int (f_X8_put I L sh i v))) (I, (n_X8_put I L sh i v), z_R b)) := by
  refine z_enter (by decide +kernel) (Nat.le_of_ble_eq_true rfl) ?_
  have hentry : PW zm_X8_put d 0 [(0, .ref 0), (1, .int sh), (2, .int i), (3, .long v)] [] SH (I, L, z_R b) 0 0 (z_ret (some (.int (f_X8_put I L sh i v))) (I, (n_X8_put I L sh i v), z_R b)) := by
    refine p_aload_n (z_dec zd_X8_put 0 rfl) rfl 0 rfl (n := 1) rfl ?_
    refine p_iload_n (z_dec zd_X8_put 1 rfl) rfl 1 rfl (n := 2) rfl ?_
    refine p_iload_n (z_dec zd_X8_put 2 rfl) rfl 2 rfl (n := 3) rfl ?_
    refine q_callV (As := [.int sh, .int i]) (rest := []) (z_dec zd_X8_put 3 rfl) zk_X8_294 zv_X8_placeRefusal (c_X8_placeRefusal (d - 1) (by omega) b I L sh i) rfl ⟨_, _, rfl⟩ rfl rfl (Nat.le_of_ble_eq_true rfl) (by omega) (n := 6) rfl ?_
    show PW zm_X8_put d 6 [(0, .ref 0), (1, .int sh), (2, .int i), (3, .long v)] [.int (f_X8_placeRefusal I sh i)] SH (I, L, z_R b) 0 0 _
    refine p_istore (z_dec zd_X8_put 4 rfl) (lv2 := [(5, .int (f_X8_placeRefusal I sh i)), (0, .ref 0), (1, .int sh), (2, .int i), (3, .long v)]) (by decide) rfl (n := 8) rfl ?_
    refine p_iload (z_dec zd_X8_put 5 rfl) 0 rfl (n := 10) rfl ?_
    refine p_if_eq (z_dec zd_X8_put 6 rfl) (t := 16) (by decide) (n := 13) rfl (fun h10 => ?_) (fun h10 => ?_)
    · have hj_sh := z_shc (z_plr h10)
      refine p_aload_n (z_dec zd_X8_put 9 rfl) rfl 1 rfl (n := 17) rfl ?_
      refine q_getR (z_dec zd_X8_put 10 rfl) zf_X8_67 (i := 41) rfl rfl (n := 20) rfl ?_
      refine p_iload_n (z_dec zd_X8_put 11 rfl) rfl 2 rfl (n := 21) rfl ?_
      refine q_aald (z_dec zd_X8_put 12 rfl) rfl (by decide) (sh.toNatClampNeg) hj_sh.1 hj_sh.2 (a := (42 + 2 * sh.toNatClampNeg)) (if_pos hj_sh.2) (n := 22) rfl ?_
      refine p_iload_n (z_dec zd_X8_put 13 rfl) rfl 3 rfl (n := 23) rfl ?_
      refine p_lload_n (z_dec zd_X8_put 14 rfl) rfl 4 rfl (n := 24) rfl ?_
      refine q_callV (As := [.int i, .long v]) (rest := []) (z_dec zd_X8_put 15 rfl) zk_X8_297 zv_X4_setAt (c_X4_setAt (d - 1) (by omega) b I L (42 + 2 * sh.toNatClampNeg) (z_SfOf b _ hj_sh.2) ((I (42 + 2 * sh.toNatClampNeg) 2).toNatClampNeg) ((hsl _ hj_sh.2).1) ((hsl _ hj_sh.2).2) i v) (z_SfOf b _ hj_sh.2).1 ⟨_, _, rfl⟩ rfl rfl (Nat.le_of_ble_eq_true rfl) (by omega) (n := 27) rfl ?_
      show PW zm_X8_put d 27 [(5, .int (f_X8_placeRefusal I sh i)), (0, .ref 0), (1, .int sh), (2, .int i), (3, .long v)] [] SH (I, (n_X4_setAt I L (42 + 2 * sh.toNatClampNeg) i v), z_R b) 0 0 _
      refine p_iconst (z_dec zd_X8_put 16 rfl) (v := 1) (by decide) (n := 28) rfl ?_
      exact p_iret (z_dec zd_X8_put 17 rfl) rfl ⟨(by unfold f_X8_put; rw [if_pos h10]), rfl, (z_3 rfl (by unfold n_X8_put; rw [if_pos h10]))⟩
    · refine p_iload (z_dec zd_X8_put 7 rfl) 0 rfl (n := 15) rfl ?_
      exact p_iret (z_dec zd_X8_put 8 rfl) rfl ⟨(by unfold f_X8_put; rw [if_neg h10]), rfl, (z_3 rfl (by unfold n_X8_put; rw [if_neg h10]))⟩
  exact hentry
def f_X8_taken (I : Nat → Nat → Int32) (sh : Int32) (k : Int32) : Int32 := if (f_X8_isShelf sh) = 0 then (-1) else if (f_X5_isKind k) = 0 then (-1) else if (I (42 + 2 * sh.toNatClampNeg) 0) = (-1) then (-11) else if (I (42 + 2 * sh.toNatClampNeg) 0) = 5 then if (f_X5_has I (I (42 + 2 * sh.toNatClampNeg) 1)) = 0 then (-12) else if (f_X5_isUnder (I 39 ((I (42 + 2 * sh.toNatClampNeg) 1).toNatClampNeg)) k) = 0 then (-12) else (I 39 ((I (42 + 2 * sh.toNatClampNeg) 1).toNatClampNeg)) else (-12)
set_option maxHeartbeats 4000000 in
set_option maxRecDepth 100000 in
theorem c_X8_taken (d : Nat) (hd : 2 ≤ d) (b : Bool) (I : Nat → Nat → Int32) (L : Nat → Nat → Int64) (sz : Nat) (hsz : I 38 1 = nI sz) (hs50 : sz ≤ 50) (sh : Int32) (k : Int32) : z_CT zm_X8_taken d [.ref 0, .int sh, .int k] SH (I, L, z_R b) 0 0 (z_ret (some (.int (f_X8_taken I sh k))) (I, L, z_R b)) := by
  refine z_enter (by decide +kernel) (Nat.le_of_ble_eq_true rfl) ?_
  have hentry : PW zm_X8_taken d 0 [(0, .ref 0), (1, .int sh), (2, .int k)] [] SH (I, L, z_R b) 0 0 (z_ret (some (.int (f_X8_taken I sh k))) (I, L, z_R b)) := by
    refine p_iload_n (z_dec zd_X8_taken 0 rfl) rfl 1 rfl (n := 1) rfl ?_
    refine q_callS (As := [.int sh]) (rest := []) (z_dec zd_X8_taken 1 rfl) zk_X8_80 zs_X8_isShelf (c_X8_isShelf (d - 1) (by omega) b I L sh) rfl rfl (Nat.le_of_ble_eq_true rfl) (by omega) (n := 4) rfl ?_
    show PW zm_X8_taken d 4 [(0, .ref 0), (1, .int sh), (2, .int k)] [.int (f_X8_isShelf sh)] SH (I, L, z_R b) 0 0 _
    refine p_if_eq (z_dec zd_X8_taken 2 rfl) (t := 14) (by decide) (n := 7) rfl (fun h4 => ?_) (fun h4 => ?_)
    · refine p_iconst (z_dec zd_X8_taken 6 rfl) (v := (-1)) (by decide) (n := 15) rfl ?_
      exact p_iret (z_dec zd_X8_taken 7 rfl) rfl ⟨(by unfold f_X8_taken; rw [if_pos h4]), rfl, rfl⟩
    · have hj_sh := z_shc h4
      refine p_iload_n (z_dec zd_X8_taken 3 rfl) rfl 2 rfl (n := 8) rfl ?_
      refine q_callS (As := [.int k]) (rest := []) (z_dec zd_X8_taken 4 rfl) zk_X8_273 zs_X5_isKind (c_X5_isKind (d - 1) (by omega) b I L k) rfl rfl (Nat.le_of_ble_eq_true rfl) (by omega) (n := 11) rfl ?_
      show PW zm_X8_taken d 11 [(0, .ref 0), (1, .int sh), (2, .int k)] [.int (f_X5_isKind k)] SH (I, L, z_R b) 0 0 _
      refine p_if_ne (z_dec zd_X8_taken 5 rfl) (t := 16) (by decide) (n := 14) rfl (fun h11 => ?_) (fun h11 => ?_)
      · refine p_aload_n (z_dec zd_X8_taken 8 rfl) rfl 0 rfl (n := 17) rfl ?_
        refine q_getR (z_dec zd_X8_taken 9 rfl) zf_X8_67 (i := 41) rfl rfl (n := 20) rfl ?_
        refine p_iload_n (z_dec zd_X8_taken 10 rfl) rfl 1 rfl (n := 21) rfl ?_
        refine q_aald (z_dec zd_X8_taken 11 rfl) rfl (by decide) (sh.toNatClampNeg) hj_sh.1 hj_sh.2 (a := (42 + 2 * sh.toNatClampNeg)) (if_pos hj_sh.2) (n := 22) rfl ?_
        refine p_astore_n (z_dec zd_X8_taken 12 rfl) rfl (lv2 := [(3, .ref (42 + 2 * sh.toNatClampNeg)), (0, .ref 0), (1, .int sh), (2, .int k)]) (by decide) rfl (n := 23) rfl ?_
        refine p_aload_n (z_dec zd_X8_taken 13 rfl) rfl 0 rfl (n := 24) rfl ?_
        refine q_getI (z_dec zd_X8_taken 14 rfl) zf_X8_84 (by decide) (z_SfOf b _ hj_sh.2).1 (v := (I (42 + 2 * sh.toNatClampNeg) 0)) rfl (n := 27) rfl ?_
        refine p_iconst (z_dec zd_X8_taken 15 rfl) (v := (-1)) (by decide) (n := 28) rfl ?_
        refine p_icmp_ne (z_dec zd_X8_taken 16 rfl) (t := 34) (by decide) (n := 31) rfl (fun h28 => ?_) (fun h28 => ?_)
        · refine p_aload_n (z_dec zd_X8_taken 19 rfl) rfl 0 rfl (n := 35) rfl ?_
          refine q_getI (z_dec zd_X8_taken 20 rfl) zf_X8_84 (by decide) (z_SfOf b _ hj_sh.2).1 (v := (I (42 + 2 * sh.toNatClampNeg) 0)) rfl (n := 38) rfl ?_
          refine p_iconst (z_dec zd_X8_taken 21 rfl) (v := 5) (by decide) (n := 39) rfl ?_
          refine p_icmp_ne (z_dec zd_X8_taken 22 rfl) (t := 56) (by decide) (n := 42) rfl (fun h39 => ?_) (fun h39 => ?_)
          · refine p_bipush (z_dec zd_X8_taken 29 rfl) (v := (-12)) (by decide) (n := 58) rfl ?_
            exact p_iret (z_dec zd_X8_taken 30 rfl) rfl ⟨(by unfold f_X8_taken; rw [if_neg h4, if_neg h11, if_neg h28, if_neg h39]), rfl, rfl⟩
          · refine p_aload_n (z_dec zd_X8_taken 23 rfl) rfl 1 rfl (n := 43) rfl ?_
            refine q_getR (z_dec zd_X8_taken 24 rfl) zf_X8_61 (i := 38) rfl rfl (n := 46) rfl ?_
            refine p_aload_n (z_dec zd_X8_taken 25 rfl) rfl 0 rfl (n := 47) rfl ?_
            refine q_getI (z_dec zd_X8_taken 26 rfl) zf_X8_317 (by decide) (z_SfOf b _ hj_sh.2).1 (v := (I (42 + 2 * sh.toNatClampNeg) 1)) rfl (n := 50) rfl ?_
            refine q_callV (As := [.int (I (42 + 2 * sh.toNatClampNeg) 1)]) (rest := []) (z_dec zd_X8_taken 27 rfl) zk_X8_285 zv_X5_has (c_X5_has (d - 1) (by omega) b I L (I (42 + 2 * sh.toNatClampNeg) 1)) rfl ⟨_, _, rfl⟩ rfl rfl (Nat.le_of_ble_eq_true rfl) (by omega) (n := 53) rfl ?_
            show PW zm_X8_taken d 53 [(3, .ref (42 + 2 * sh.toNatClampNeg)), (0, .ref 0), (1, .int sh), (2, .int k)] [.int (f_X5_has I (I (42 + 2 * sh.toNatClampNeg) 1))] SH (I, L, z_R b) 0 0 _
            refine p_if_ne (z_dec zd_X8_taken 28 rfl) (t := 59) (by decide) (n := 56) rfl (fun h53 => ?_) (fun h53 => ?_)
            · have hst := z_hasS hsz hs50 h53
              refine p_aload_n (z_dec zd_X8_taken 31 rfl) rfl 1 rfl (n := 60) rfl ?_
              refine q_getR (z_dec zd_X8_taken 32 rfl) zf_X8_61 (i := 38) rfl rfl (n := 63) rfl ?_
              refine q_getR (z_dec zd_X8_taken 33 rfl) zf_X8_320 (i := 39) rfl rfl (n := 66) rfl ?_
              refine p_aload_n (z_dec zd_X8_taken 34 rfl) rfl 0 rfl (n := 67) rfl ?_
              refine q_getI (z_dec zd_X8_taken 35 rfl) zf_X8_317 (by decide) (z_SfOf b _ hj_sh.2).1 (v := (I (42 + 2 * sh.toNatClampNeg) 1)) rfl (n := 70) rfl ?_
              refine q_iald (z_dec zd_X8_taken 36 rfl) rfl (by decide) ((I (42 + 2 * sh.toNatClampNeg) 1).toNatClampNeg) hst.1 hst.2 (v := (I 39 ((I (42 + 2 * sh.toNatClampNeg) 1).toNatClampNeg))) rfl (n := 71) rfl ?_
              refine p_istore (z_dec zd_X8_taken 37 rfl) (lv2 := [(4, .int (I 39 ((I (42 + 2 * sh.toNatClampNeg) 1).toNatClampNeg))), (3, .ref (42 + 2 * sh.toNatClampNeg)), (0, .ref 0), (1, .int sh), (2, .int k)]) (by decide) rfl (n := 73) rfl ?_
              refine p_iload (z_dec zd_X8_taken 38 rfl) 0 rfl (n := 75) rfl ?_
              refine p_iload_n (z_dec zd_X8_taken 39 rfl) rfl 4 rfl (n := 76) rfl ?_
              refine q_callS (As := [.int (I 39 ((I (42 + 2 * sh.toNatClampNeg) 1).toNatClampNeg)), .int k]) (rest := []) (z_dec zd_X8_taken 40 rfl) zk_X8_323 zs_X5_isUnder (c_X5_isUnder (d - 1) (by omega) b I L (I 39 ((I (42 + 2 * sh.toNatClampNeg) 1).toNatClampNeg)) k) rfl rfl (Nat.le_of_ble_eq_true rfl) (by omega) (n := 79) rfl ?_
              show PW zm_X8_taken d 79 [(4, .int (I 39 ((I (42 + 2 * sh.toNatClampNeg) 1).toNatClampNeg))), (3, .ref (42 + 2 * sh.toNatClampNeg)), (0, .ref 0), (1, .int sh), (2, .int k)] [.int (f_X5_isUnder (I 39 ((I (42 + 2 * sh.toNatClampNeg) 1).toNatClampNeg)) k)] SH (I, L, z_R b) 0 0 _
              refine p_if_eq (z_dec zd_X8_taken 41 rfl) (t := 87) (by decide) (n := 82) rfl (fun h79 => ?_) (fun h79 => ?_)
              · refine p_bipush (z_dec zd_X8_taken 44 rfl) (v := (-12)) (by decide) (n := 89) rfl ?_
                exact p_iret (z_dec zd_X8_taken 45 rfl) rfl ⟨(by unfold f_X8_taken; rw [if_neg h4, if_neg h11, if_neg h28, if_pos h39, if_neg h53, if_pos h79]), rfl, rfl⟩
              · refine p_iload (z_dec zd_X8_taken 42 rfl) 0 rfl (n := 84) rfl ?_
                refine p_goto (z_dec zd_X8_taken 43 rfl) (t := 89) (by decide) ?_
                exact p_iret (z_dec zd_X8_taken 45 rfl) rfl ⟨(by unfold f_X8_taken; rw [if_neg h4, if_neg h11, if_neg h28, if_pos h39, if_neg h53, if_neg h79]), rfl, rfl⟩
            · refine p_bipush (z_dec zd_X8_taken 29 rfl) (v := (-12)) (by decide) (n := 58) rfl ?_
              exact p_iret (z_dec zd_X8_taken 30 rfl) rfl ⟨(by unfold f_X8_taken; rw [if_neg h4, if_neg h11, if_neg h28, if_pos h39, if_pos h53]), rfl, rfl⟩
        · refine p_bipush (z_dec zd_X8_taken 17 rfl) (v := (-11)) (by decide) (n := 33) rfl ?_
          exact p_iret (z_dec zd_X8_taken 18 rfl) rfl ⟨(by unfold f_X8_taken; rw [if_neg h4, if_neg h11, if_pos h28]), rfl, rfl⟩
      · refine p_iconst (z_dec zd_X8_taken 6 rfl) (v := (-1)) (by decide) (n := 15) rfl ?_
        exact p_iret (z_dec zd_X8_taken 7 rfl) rfl ⟨(by unfold f_X8_taken; rw [if_neg h4, if_pos h11]), rfl, rfl⟩
  exact hentry
def f_X8_count (I : Nat → Nat → Int32) (np : Nat) (what : Int32) : Int32 := if what = 0 then (nI np) else if what = 1 then (f_J6_bitCount_0f7a4 (f_X7_judgeBits I 1 np)) else if what = 2 then (I 13 1) else if what = 3 then (I 33 4) else if what = 4 then (I 38 1) else if what = 5 then (I 38 3) else (-1)
set_option maxHeartbeats 4000000 in
set_option maxRecDepth 100000 in
theorem c_X8_count (d : Nat) (hd : 2 ≤ d) (b : Bool) (I : Nat → Nat → Int32) (L : Nat → Nat → Int64) (np : Nat) (hnp : I 1 0 = nI np) (hn10 : np ≤ 10) (what : Int32) : z_CT zm_X8_count d [.ref 0, .int what] SH (I, L, z_R b) 0 0 (z_ret (some (.int (f_X8_count I np what))) (I, L, z_R b)) := by
  refine z_enter (by decide +kernel) (Nat.le_of_ble_eq_true rfl) ?_
  have hentry : PW zm_X8_count d 0 [(0, .ref 0), (1, .int what)] [] SH (I, L, z_R b) 0 0 (z_ret (some (.int (f_X8_count I np what))) (I, L, z_R b)) := by
    refine p_iload_n (z_dec zd_X8_count 0 rfl) rfl 1 rfl (n := 1) rfl ?_
    by_cases hs1_0 : what = 0
    · refine p_tableIn (z_dec zd_X8_count 1 rfl) (off := 39) (t := 40) (by rw [hs1_0]; decide) (by rw [hs1_0]; decide) (by rw [hs1_0]; rfl) (by decide) ?_
      refine p_aload_n (z_dec zd_X8_count 2 rfl) rfl 0 rfl (n := 41) rfl ?_
      refine q_getR (z_dec zd_X8_count 3 rfl) zf_X8_10 (i := 1) rfl rfl (n := 44) rfl ?_
      refine q_getI (z_dec zd_X8_count 4 rfl) zf_X8_136 (by decide) rfl (v := (nI np)) hnp (n := 47) rfl ?_
      exact p_iret (z_dec zd_X8_count 5 rfl) rfl ⟨(by unfold f_X8_count; rw [if_pos hs1_0]), rfl, rfl⟩
    by_cases hs1_1 : what = 1
    · refine p_tableIn (z_dec zd_X8_count 1 rfl) (off := 47) (t := 48) (by rw [hs1_1]; decide) (by rw [hs1_1]; decide) (by rw [hs1_1]; rfl) (by decide) ?_
      refine p_aload_n (z_dec zd_X8_count 6 rfl) rfl 0 rfl (n := 49) rfl ?_
      refine q_getR (z_dec zd_X8_count 7 rfl) zf_X8_10 (i := 1) rfl rfl (n := 52) rfl ?_
      refine q_callV (As := []) (rest := []) (z_dec zd_X8_count 8 rfl) zk_X8_130 zv_X7_judgeBits (c_X7_judgeBits (d - 1) (by omega) b I L 1 (z_Yd1 b) np hnp hn10) rfl ⟨_, _, rfl⟩ rfl rfl (Nat.le_of_ble_eq_true rfl) (by omega) (n := 55) rfl ?_
      show PW zm_X8_count d 55 [(0, .ref 0), (1, .int what)] [.int (f_X7_judgeBits I 1 np)] SH (I, L, z_R b) 0 0 _
      refine q_callS (As := [.int (f_X7_judgeBits I 1 np)]) (rest := []) (z_dec zd_X8_count 9 rfl) zk_X8_326 zs_J6_bitCount_0f7a4 (c_J6_bitCount_0f7a4 (d - 1) (by omega) b I L (f_X7_judgeBits I 1 np)) rfl rfl (Nat.le_of_ble_eq_true rfl) (by omega) (n := 58) rfl ?_
      show PW zm_X8_count d 58 [(0, .ref 0), (1, .int what)] [.int (f_J6_bitCount_0f7a4 (f_X7_judgeBits I 1 np))] SH (I, L, z_R b) 0 0 _
      exact p_iret (z_dec zd_X8_count 10 rfl) rfl ⟨(by unfold f_X8_count; rw [if_neg hs1_0, if_pos hs1_1]), rfl, rfl⟩
    by_cases hs1_2 : what = 2
    · refine p_tableIn (z_dec zd_X8_count 1 rfl) (off := 58) (t := 59) (by rw [hs1_2]; decide) (by rw [hs1_2]; decide) (by rw [hs1_2]; rfl) (by decide) ?_
      refine p_aload_n (z_dec zd_X8_count 11 rfl) rfl 0 rfl (n := 60) rfl ?_
      refine q_getR (z_dec zd_X8_count 12 rfl) zf_X8_26 (i := 13) rfl rfl (n := 63) rfl ?_
      refine q_getI (z_dec zd_X8_count 13 rfl) zf_X8_118 (by decide) rfl (v := (I 13 1)) rfl (n := 66) rfl ?_
      exact p_iret (z_dec zd_X8_count 14 rfl) rfl ⟨(by unfold f_X8_count; rw [if_neg hs1_0, if_neg hs1_1, if_pos hs1_2]), rfl, rfl⟩
    by_cases hs1_3 : what = 3
    · refine p_tableIn (z_dec zd_X8_count 1 rfl) (off := 66) (t := 67) (by rw [hs1_3]; decide) (by rw [hs1_3]; decide) (by rw [hs1_3]; rfl) (by decide) ?_
      refine p_aload_n (z_dec zd_X8_count 15 rfl) rfl 0 rfl (n := 68) rfl ?_
      refine q_getR (z_dec zd_X8_count 16 rfl) zf_X8_54 (i := 33) rfl rfl (n := 71) rfl ?_
      refine q_getI (z_dec zd_X8_count 17 rfl) zf_X8_261 (by decide) rfl (v := (I 33 4)) rfl (n := 74) rfl ?_
      exact p_iret (z_dec zd_X8_count 18 rfl) rfl ⟨(by unfold f_X8_count; rw [if_neg hs1_0, if_neg hs1_1, if_neg hs1_2, if_pos hs1_3]), rfl, rfl⟩
    by_cases hs1_4 : what = 4
    · refine p_tableIn (z_dec zd_X8_count 1 rfl) (off := 74) (t := 75) (by rw [hs1_4]; decide) (by rw [hs1_4]; decide) (by rw [hs1_4]; rfl) (by decide) ?_
      refine p_aload_n (z_dec zd_X8_count 19 rfl) rfl 0 rfl (n := 76) rfl ?_
      refine q_getR (z_dec zd_X8_count 20 rfl) zf_X8_61 (i := 38) rfl rfl (n := 79) rfl ?_
      refine q_getI (z_dec zd_X8_count 21 rfl) zf_X8_331 (by decide) rfl (v := (I 38 1)) rfl (n := 82) rfl ?_
      exact p_iret (z_dec zd_X8_count 22 rfl) rfl ⟨(by unfold f_X8_count; rw [if_neg hs1_0, if_neg hs1_1, if_neg hs1_2, if_neg hs1_3, if_pos hs1_4]), rfl, rfl⟩
    by_cases hs1_5 : what = 5
    · refine p_tableIn (z_dec zd_X8_count 1 rfl) (off := 82) (t := 83) (by rw [hs1_5]; decide) (by rw [hs1_5]; decide) (by rw [hs1_5]; rfl) (by decide) ?_
      refine p_aload_n (z_dec zd_X8_count 23 rfl) rfl 0 rfl (n := 84) rfl ?_
      refine q_getR (z_dec zd_X8_count 24 rfl) zf_X8_61 (i := 38) rfl rfl (n := 87) rfl ?_
      refine q_getI (z_dec zd_X8_count 25 rfl) zf_X8_334 (by decide) rfl (v := (I 38 3)) rfl (n := 90) rfl ?_
      exact p_iret (z_dec zd_X8_count 26 rfl) rfl ⟨(by unfold f_X8_count; rw [if_neg hs1_0, if_neg hs1_1, if_neg hs1_2, if_neg hs1_3, if_neg hs1_4, if_pos hs1_5]), rfl, rfl⟩
    have hs1_0n : ¬ what.toInt = 0 := lv_neT hs1_0 rfl
    have hs1_1n : ¬ what.toInt = 1 := lv_neT hs1_1 rfl
    have hs1_2n : ¬ what.toInt = 2 := lv_neT hs1_2 rfl
    have hs1_3n : ¬ what.toInt = 3 := lv_neT hs1_3 rfl
    have hs1_4n : ¬ what.toInt = 4 := lv_neT hs1_4 rfl
    have hs1_5n : ¬ what.toInt = 5 := lv_neT hs1_5 rfl
    refine p_tableOut (z_dec zd_X8_count 1 rfl) (t := 91) (by omega) (by decide) ?_
    refine p_iconst (z_dec zd_X8_count 27 rfl) (v := (-1)) (by decide) (n := 92) rfl ?_
    exact p_iret (z_dec zd_X8_count 28 rfl) rfl ⟨(by unfold f_X8_count; rw [if_neg hs1_0, if_neg hs1_1, if_neg hs1_2, if_neg hs1_3, if_neg hs1_4, if_neg hs1_5]), rfl, rfl⟩
  exact hentry
def f_X8_shift (I : Nat → Nat → Int32) (L : Nat → Nat → Int64) (sh : Int32) (i : Int32) (ot : Int32) (j : Int32) (n : Int32) : Int32 := if (f_X8_isShelf sh) = 0 then (-1) else if (f_X8_isShelf ot) = 0 then (-1) else if (I (42 + 2 * sh.toNatClampNeg) 0) = (-1) then (-11) else if (I (42 + 2 * ot.toNatClampNeg) 0) = (-1) then (-11) else if (f_X4_holdsRow I (42 + 2 * sh.toNatClampNeg)) = 0 then (-12) else if (I (42 + 2 * sh.toNatClampNeg) 0) = (I (42 + 2 * ot.toNatClampNeg) 0) then if (f_X4_hasPlaces I (42 + 2 * sh.toNatClampNeg) i n) = 0 then (-13) else if (f_X4_hasPlaces I (42 + 2 * ot.toNatClampNeg) j n) = 0 then (-13) else n else (-12)
def n_X8_shift (I : Nat → Nat → Int32) (L : Nat → Nat → Int64) (sh : Int32) (i : Int32) (ot : Int32) (j : Int32) (n : Int32) : Nat → Nat → Int64 := if (f_X8_isShelf sh) = 0 then L else if (f_X8_isShelf ot) = 0 then L else if (I (42 + 2 * sh.toNatClampNeg) 0) = (-1) then L else if (I (42 + 2 * ot.toNatClampNeg) 0) = (-1) then L else if (f_X4_holdsRow I (42 + 2 * sh.toNatClampNeg)) = 0 then L else if (I (42 + 2 * sh.toNatClampNeg) 0) = (I (42 + 2 * ot.toNatClampNeg) 0) then if (f_X4_hasPlaces I (42 + 2 * sh.toNatClampNeg) i n) = 0 then L else if (f_X4_hasPlaces I (42 + 2 * ot.toNatClampNeg) j n) = 0 then L else (z_ro L ((42 + 2 * ot.toNatClampNeg) + 1) (va_cpy (L ((42 + 2 * sh.toNatClampNeg) + 1)) (L ((42 + 2 * ot.toNatClampNeg) + 1)) i.toNatClampNeg j.toNatClampNeg n.toNatClampNeg)) else L
set_option maxHeartbeats 4000000 in
set_option maxRecDepth 100000 in
theorem c_X8_shift (d : Nat) (hd : 1 ≤ d) (b : Bool) (I : Nat → Nat → Int32) (L : Nat → Nat → Int64) (hsl : ∀ j, j < 6 → I (42 + 2 * j) 2 = nI (I (42 + 2 * j) 2).toNatClampNeg ∧ (I (42 + 2 * j) 2).toNatClampNeg ≤ 60) (sh : Int32) (i : Int32) (ot : Int32) (j : Int32) (n : Int32) : z_CT zm_X8_shift d [.ref 0, .int sh, .int i, .int ot, .int j, .int n] SH (I, L, z_R b) 0 0 (z_ret (some (.int (f_X8_shift I L sh i ot j n))) (I, (n_X8_shift I L sh i ot j n), z_R b)) := by
  refine z_enter (by decide +kernel) (Nat.le_of_ble_eq_true rfl) ?_
  have hentry : PW zm_X8_shift d 0 [(0, .ref 0), (1, .int sh), (2, .int i), (3, .int ot), (4, .int j), (5, .int n)] [] SH (I, L, z_R b) 0 0 (z_ret (some (.int (f_X8_shift I L sh i ot j n))) (I, (n_X8_shift I L sh i ot j n), z_R b)) := by
    refine p_iload_n (z_dec zd_X8_shift 0 rfl) rfl 1 rfl (n := 1) rfl ?_
    refine q_callS (As := [.int sh]) (rest := []) (z_dec zd_X8_shift 1 rfl) zk_X8_80 zs_X8_isShelf (c_X8_isShelf (d - 1) (by omega) b I L sh) rfl rfl (Nat.le_of_ble_eq_true rfl) (by omega) (n := 4) rfl ?_
    show PW zm_X8_shift d 4 [(0, .ref 0), (1, .int sh), (2, .int i), (3, .int ot), (4, .int j), (5, .int n)] [.int (f_X8_isShelf sh)] SH (I, L, z_R b) 0 0 _
    refine p_if_eq (z_dec zd_X8_shift 2 rfl) (t := 14) (by decide) (n := 7) rfl (fun h4 => ?_) (fun h4 => ?_)
    · refine p_iconst (z_dec zd_X8_shift 6 rfl) (v := (-1)) (by decide) (n := 15) rfl ?_
      exact p_iret (z_dec zd_X8_shift 7 rfl) rfl ⟨(by unfold f_X8_shift; rw [if_pos h4]), rfl, (z_3 rfl (by unfold n_X8_shift; rw [if_pos h4]))⟩
    · have hj_sh := z_shc h4
      refine p_iload_n (z_dec zd_X8_shift 3 rfl) rfl 3 rfl (n := 8) rfl ?_
      refine q_callS (As := [.int ot]) (rest := []) (z_dec zd_X8_shift 4 rfl) zk_X8_80 zs_X8_isShelf (c_X8_isShelf (d - 1) (by omega) b I L ot) rfl rfl (Nat.le_of_ble_eq_true rfl) (by omega) (n := 11) rfl ?_
      show PW zm_X8_shift d 11 [(0, .ref 0), (1, .int sh), (2, .int i), (3, .int ot), (4, .int j), (5, .int n)] [.int (f_X8_isShelf ot)] SH (I, L, z_R b) 0 0 _
      refine p_if_ne (z_dec zd_X8_shift 5 rfl) (t := 16) (by decide) (n := 14) rfl (fun h11 => ?_) (fun h11 => ?_)
      · have hj_ot := z_shc h11
        refine p_aload_n (z_dec zd_X8_shift 8 rfl) rfl 0 rfl (n := 17) rfl ?_
        refine q_getR (z_dec zd_X8_shift 9 rfl) zf_X8_67 (i := 41) rfl rfl (n := 20) rfl ?_
        refine p_iload_n (z_dec zd_X8_shift 10 rfl) rfl 1 rfl (n := 21) rfl ?_
        refine q_aald (z_dec zd_X8_shift 11 rfl) rfl (by decide) (sh.toNatClampNeg) hj_sh.1 hj_sh.2 (a := (42 + 2 * sh.toNatClampNeg)) (if_pos hj_sh.2) (n := 22) rfl ?_
        refine p_astore (z_dec zd_X8_shift 12 rfl) (lv2 := [(6, .ref (42 + 2 * sh.toNatClampNeg)), (0, .ref 0), (1, .int sh), (2, .int i), (3, .int ot), (4, .int j), (5, .int n)]) (by decide) rfl (n := 24) rfl ?_
        refine p_aload_n (z_dec zd_X8_shift 13 rfl) rfl 1 rfl (n := 25) rfl ?_
        refine q_getR (z_dec zd_X8_shift 14 rfl) zf_X8_67 (i := 41) rfl rfl (n := 28) rfl ?_
        refine p_iload_n (z_dec zd_X8_shift 15 rfl) rfl 4 rfl (n := 29) rfl ?_
        refine q_aald (z_dec zd_X8_shift 16 rfl) rfl (by decide) (ot.toNatClampNeg) hj_ot.1 hj_ot.2 (a := (42 + 2 * ot.toNatClampNeg)) (if_pos hj_ot.2) (n := 30) rfl ?_
        refine p_astore (z_dec zd_X8_shift 17 rfl) (lv2 := [(7, .ref (42 + 2 * ot.toNatClampNeg)), (6, .ref (42 + 2 * sh.toNatClampNeg)), (0, .ref 0), (1, .int sh), (2, .int i), (3, .int ot), (4, .int j), (5, .int n)]) (by decide) rfl (n := 32) rfl ?_
        refine p_aload (z_dec zd_X8_shift 18 rfl) 1 rfl (n := 34) rfl ?_
        refine q_getI (z_dec zd_X8_shift 19 rfl) zf_X8_84 (by decide) (z_SfOf b _ hj_sh.2).1 (v := (I (42 + 2 * sh.toNatClampNeg) 0)) rfl (n := 37) rfl ?_
        refine p_iconst (z_dec zd_X8_shift 20 rfl) (v := (-1)) (by decide) (n := 38) rfl ?_
        refine p_icmp_eq (z_dec zd_X8_shift 21 rfl) (t := 50) (by decide) (n := 41) rfl (fun h38 => ?_) (fun h38 => ?_)
        · refine p_bipush (z_dec zd_X8_shift 26 rfl) (v := (-11)) (by decide) (n := 52) rfl ?_
          exact p_iret (z_dec zd_X8_shift 27 rfl) rfl ⟨(by unfold f_X8_shift; rw [if_neg h4, if_neg h11, if_pos h38]), rfl, (z_3 rfl (by unfold n_X8_shift; rw [if_neg h4, if_neg h11, if_pos h38]))⟩
        · refine p_aload (z_dec zd_X8_shift 22 rfl) 0 rfl (n := 43) rfl ?_
          refine q_getI (z_dec zd_X8_shift 23 rfl) zf_X8_84 (by decide) (z_SfOf b _ hj_ot.2).1 (v := (I (42 + 2 * ot.toNatClampNeg) 0)) rfl (n := 46) rfl ?_
          refine p_iconst (z_dec zd_X8_shift 24 rfl) (v := (-1)) (by decide) (n := 47) rfl ?_
          refine p_icmp_ne (z_dec zd_X8_shift 25 rfl) (t := 53) (by decide) (n := 50) rfl (fun h47 => ?_) (fun h47 => ?_)
          · refine p_aload (z_dec zd_X8_shift 28 rfl) 1 rfl (n := 55) rfl ?_
            refine q_callV (As := []) (rest := []) (z_dec zd_X8_shift 29 rfl) zk_X8_301 zv_X4_holdsRow (c_X4_holdsRow (d - 1) (by omega) b I L (42 + 2 * sh.toNatClampNeg) (z_SfOf b _ hj_sh.2)) (z_SfOf b _ hj_sh.2).1 ⟨_, _, rfl⟩ rfl rfl (Nat.le_of_ble_eq_true rfl) (by omega) (n := 58) rfl ?_
            show PW zm_X8_shift d 58 [(7, .ref (42 + 2 * ot.toNatClampNeg)), (6, .ref (42 + 2 * sh.toNatClampNeg)), (0, .ref 0), (1, .int sh), (2, .int i), (3, .int ot), (4, .int j), (5, .int n)] [.int (f_X4_holdsRow I (42 + 2 * sh.toNatClampNeg))] SH (I, L, z_R b) 0 0 _
            refine p_if_eq (z_dec zd_X8_shift 30 rfl) (t := 74) (by decide) (n := 61) rfl (fun h58 => ?_) (fun h58 => ?_)
            · refine p_bipush (z_dec zd_X8_shift 36 rfl) (v := (-12)) (by decide) (n := 76) rfl ?_
              exact p_iret (z_dec zd_X8_shift 37 rfl) rfl ⟨(by unfold f_X8_shift; rw [if_neg h4, if_neg h11, if_neg h38, if_neg h47, if_pos h58]), rfl, (z_3 rfl (by unfold n_X8_shift; rw [if_neg h4, if_neg h11, if_neg h38, if_neg h47, if_pos h58]))⟩
            · refine p_aload (z_dec zd_X8_shift 31 rfl) 1 rfl (n := 63) rfl ?_
              refine q_getI (z_dec zd_X8_shift 32 rfl) zf_X8_84 (by decide) (z_SfOf b _ hj_sh.2).1 (v := (I (42 + 2 * sh.toNatClampNeg) 0)) rfl (n := 66) rfl ?_
              refine p_aload (z_dec zd_X8_shift 33 rfl) 0 rfl (n := 68) rfl ?_
              refine q_getI (z_dec zd_X8_shift 34 rfl) zf_X8_84 (by decide) (z_SfOf b _ hj_ot.2).1 (v := (I (42 + 2 * ot.toNatClampNeg) 0)) rfl (n := 71) rfl ?_
              refine p_icmp_eq (z_dec zd_X8_shift 35 rfl) (t := 77) (by decide) (n := 74) rfl (fun h71 => ?_) (fun h71 => ?_)
              · refine p_aload (z_dec zd_X8_shift 38 rfl) 1 rfl (n := 79) rfl ?_
                refine p_iload_n (z_dec zd_X8_shift 39 rfl) rfl 4 rfl (n := 80) rfl ?_
                refine p_iload (z_dec zd_X8_shift 40 rfl) 7 rfl (n := 82) rfl ?_
                refine q_callV (As := [.int i, .int n]) (rest := []) (z_dec zd_X8_shift 41 rfl) zk_X8_304 zv_X4_hasPlaces (c_X4_hasPlaces (d - 1) (by omega) b I L (42 + 2 * sh.toNatClampNeg) (z_SfOf b _ hj_sh.2) i n) (z_SfOf b _ hj_sh.2).1 ⟨_, _, rfl⟩ rfl rfl (Nat.le_of_ble_eq_true rfl) (by omega) (n := 85) rfl ?_
                show PW zm_X8_shift d 85 [(7, .ref (42 + 2 * ot.toNatClampNeg)), (6, .ref (42 + 2 * sh.toNatClampNeg)), (0, .ref 0), (1, .int sh), (2, .int i), (3, .int ot), (4, .int j), (5, .int n)] [.int (f_X4_hasPlaces I (42 + 2 * sh.toNatClampNeg) i n)] SH (I, L, z_R b) 0 0 _
                refine p_if_eq (z_dec zd_X8_shift 42 rfl) (t := 100) (by decide) (n := 88) rfl (fun h85 => ?_) (fun h85 => ?_)
                · refine p_bipush (z_dec zd_X8_shift 48 rfl) (v := (-13)) (by decide) (n := 102) rfl ?_
                  exact p_iret (z_dec zd_X8_shift 49 rfl) rfl ⟨(by unfold f_X8_shift; rw [if_neg h4, if_neg h11, if_neg h38, if_neg h47, if_neg h58, if_pos h71, if_pos h85]), rfl, (z_3 rfl (by unfold n_X8_shift; rw [if_neg h4, if_neg h11, if_neg h38, if_neg h47, if_neg h58, if_pos h71, if_pos h85]))⟩
                · have hp1 := z_plcN (hsl _ hj_sh.2).1 (hsl _ hj_sh.2).2 h85
                  refine p_aload (z_dec zd_X8_shift 43 rfl) 0 rfl (n := 90) rfl ?_
                  refine p_iload (z_dec zd_X8_shift 44 rfl) 6 rfl (n := 92) rfl ?_
                  refine p_iload (z_dec zd_X8_shift 45 rfl) 7 rfl (n := 94) rfl ?_
                  refine q_callV (As := [.int j, .int n]) (rest := []) (z_dec zd_X8_shift 46 rfl) zk_X8_304 zv_X4_hasPlaces (c_X4_hasPlaces (d - 1) (by omega) b I L (42 + 2 * ot.toNatClampNeg) (z_SfOf b _ hj_ot.2) j n) (z_SfOf b _ hj_ot.2).1 ⟨_, _, rfl⟩ rfl rfl (Nat.le_of_ble_eq_true rfl) (by omega) (n := 97) rfl ?_
                  show PW zm_X8_shift d 97 [(7, .ref (42 + 2 * ot.toNatClampNeg)), (6, .ref (42 + 2 * sh.toNatClampNeg)), (0, .ref 0), (1, .int sh), (2, .int i), (3, .int ot), (4, .int j), (5, .int n)] [.int (f_X4_hasPlaces I (42 + 2 * ot.toNatClampNeg) j n)] SH (I, L, z_R b) 0 0 _
                  refine p_if_ne (z_dec zd_X8_shift 47 rfl) (t := 103) (by decide) (n := 100) rfl (fun h97 => ?_) (fun h97 => ?_)
                  · have hp2 := z_plcN (hsl _ hj_ot.2).1 (hsl _ hj_ot.2).2 h97
                    have hp3 := (hsl _ hj_sh.2).2
                    have hp4 := (hsl _ hj_ot.2).2
                    refine p_aload (z_dec zd_X8_shift 50 rfl) 1 rfl (n := 105) rfl ?_
                    refine q_getR (z_dec zd_X8_shift 51 rfl) zf_X8_307 (i := ((42 + 2 * sh.toNatClampNeg) + 1)) (z_SfOf b _ hj_sh.2).2.2 (z_SfOf b _ hj_sh.2).1 (n := 108) rfl ?_
                    refine p_iload_n (z_dec zd_X8_shift 52 rfl) rfl 4 rfl (n := 109) rfl ?_
                    refine p_aload (z_dec zd_X8_shift 53 rfl) 0 rfl (n := 111) rfl ?_
                    refine q_getR (z_dec zd_X8_shift 54 rfl) zf_X8_307 (i := ((42 + 2 * ot.toNatClampNeg) + 1)) (z_SfOf b _ hj_ot.2).2.2 (z_SfOf b _ hj_ot.2).1 (n := 114) rfl ?_
                    refine p_iload (z_dec zd_X8_shift 55 rfl) 6 rfl (n := 116) rfl ?_
                    refine p_iload (z_dec zd_X8_shift 56 rfl) 7 rfl (n := 118) rfl ?_
                    refine q_copyL (z_dec zd_X8_shift 57 rfl) zk_X8_311 zk_copy (z_SfOf b _ hj_sh.2).2.1 (z_SfOf b _ hj_ot.2).2.1 (by decide) (by decide) (i.toNatClampNeg) (j.toNatClampNeg) (n.toNatClampNeg) hp1.1.1 hp2.1.1 hp1.1.2 (Nat.le_trans hp1.2 hp3) (Nat.le_trans hp2.2 hp4) (by omega) (Nat.le_of_ble_eq_true rfl) (n := 121) rfl ?_
                    refine p_iload (z_dec zd_X8_shift 58 rfl) 7 rfl (n := 123) rfl ?_
                    exact p_iret (z_dec zd_X8_shift 59 rfl) rfl ⟨(by unfold f_X8_shift; rw [if_neg h4, if_neg h11, if_neg h38, if_neg h47, if_neg h58, if_pos h71, if_neg h85, if_neg h97]), rfl, (z_3 rfl (by unfold n_X8_shift; rw [if_neg h4, if_neg h11, if_neg h38, if_neg h47, if_neg h58, if_pos h71, if_neg h85, if_neg h97]))⟩
                  · refine p_bipush (z_dec zd_X8_shift 48 rfl) (v := (-13)) (by decide) (n := 102) rfl ?_
                    exact p_iret (z_dec zd_X8_shift 49 rfl) rfl ⟨(by unfold f_X8_shift; rw [if_neg h4, if_neg h11, if_neg h38, if_neg h47, if_neg h58, if_pos h71, if_neg h85, if_pos h97]), rfl, (z_3 rfl (by unfold n_X8_shift; rw [if_neg h4, if_neg h11, if_neg h38, if_neg h47, if_neg h58, if_pos h71, if_neg h85, if_pos h97]))⟩
              · refine p_bipush (z_dec zd_X8_shift 36 rfl) (v := (-12)) (by decide) (n := 76) rfl ?_
                exact p_iret (z_dec zd_X8_shift 37 rfl) rfl ⟨(by unfold f_X8_shift; rw [if_neg h4, if_neg h11, if_neg h38, if_neg h47, if_neg h58, if_neg h71]), rfl, (z_3 rfl (by unfold n_X8_shift; rw [if_neg h4, if_neg h11, if_neg h38, if_neg h47, if_neg h58, if_neg h71]))⟩
          · refine p_bipush (z_dec zd_X8_shift 26 rfl) (v := (-11)) (by decide) (n := 52) rfl ?_
            exact p_iret (z_dec zd_X8_shift 27 rfl) rfl ⟨(by unfold f_X8_shift; rw [if_neg h4, if_neg h11, if_neg h38, if_pos h47]), rfl, (z_3 rfl (by unfold n_X8_shift; rw [if_neg h4, if_neg h11, if_neg h38, if_pos h47]))⟩
      · refine p_iconst (z_dec zd_X8_shift 6 rfl) (v := (-1)) (by decide) (n := 15) rfl ?_
        exact p_iret (z_dec zd_X8_shift 7 rfl) rfl ⟨(by unfold f_X8_shift; rw [if_neg h4, if_pos h11]), rfl, (z_3 rfl (by unfold n_X8_shift; rw [if_neg h4, if_pos h11]))⟩
  exact hentry
