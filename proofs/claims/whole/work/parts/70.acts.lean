/-- how many bodies ran, n at most -/
def z_rn (n : Nat) (I : Nat → Nat → Int32) : Prop := I 54 35 = nI (I 54 35).toNatClampNeg ∧ (I 54 35).toNatClampNeg ≤ n
/-- the reference's trace: a body runs; bodies run -/
def z_pM (I : Nat → Nat → Int32) (v : Int32) : Nat → Nat → Int32 := m_X9_runs I (I 54 35).toNatClampNeg v
def z_PL (I : Nat → Nat → Int32) (l : List Int32) : Nat → Nat → Int32 := l.foldl z_pM I
theorem z_PL1 (I : Nat → Nat → Int32) (v : Int32) : z_pM I v = z_PL I [v] := rfl
theorem z_PLa (I : Nat → Nat → Int32) (l k : List Int32) : z_PL (z_PL I l) k = z_PL I (l ++ k) := by unfold z_PL; rw [List.foldl_append]
theorem z_PLc (I : Nat → Nat → Int32) (v : Int32) (k : List Int32) : z_PL (z_pM I v) k = z_PL I (v :: k) := rfl
theorem z_pMF (I : Nat → Nat → Int32) (v : Int32) {j : Nat} (h : j ≠ 35) : z_pM I v 54 j = I 54 j := z_ruF I _ v j h
theorem z_PLF (I : Nat → Nat → Int32) {j : Nat} (h : j ≠ 35) : ∀ (l : List Int32), z_PL I l 54 j = I 54 j
  | [] => rfl
  | v :: l => (z_PLF (z_pM I v) h l).trans (z_pMF I v h)
theorem z_rnP {n : Nat} {I : Nat → Nat → Int32} (h : z_rn n I) (hn : n ≤ 998) (v : Int32) : z_rn (n + 1) (z_pM I v) := by
  have e : z_pM I v 54 35 = nI ((I 54 35).toNatClampNeg + 1) := z_ruR I (I 54 35).toNatClampNeg v
  have h2 := h.2
  unfold z_rn
  rw [e, nI_clamp (by omega)]
  exact ⟨rfl, by omega⟩
theorem z_rnL {n : Nat} {I : Nat → Nat → Int32} (h : z_rn n I) : ∀ (l : List Int32) (m : Nat), l.length ≤ m → n + m ≤ 998 → z_rn (n + m) (z_PL I l)
  | [], m, hm, hn => ⟨h.1, Nat.le_trans h.2 (Nat.le_add_right _ _)⟩
  | v :: l, 0, hm, hn => absurd hm (Nat.not_succ_le_zero _)
  | v :: l, m + 1, hm, hn => by
    have g := z_rnL (z_rnP h (by omega) v) l m (Nat.le_of_succ_le_succ hm) (by omega)
    rw [show n + (m + 1) = n + 1 + m by omega]
    exact g
/-- what the acts answer and which bodies run: of kinds kd on, own kind ok, number n -/
def z_T0 (kd : Int32) : List Int32 := if kd = 1 then [20, 1] else if kd = 4 then [20, 1] else if kd = 7 then [20, 1] else if kd = 6 then [70, 1] else [1]
def z_V0 (kd n x : Int32) : Int32 := if kd = 1 then x + n + 3 else if kd = 4 then x + n + 3 else if kd = 7 then x + n + 3 else if kd = 6 then (x + n) * 2 else x + n
def z_T2 (kd ok : Int32) : List Int32 := if kd = 3 then [40, 11] else if kd = 5 then [40, 11] else if kd = 4 then 50 :: 11 :: z_T0 ok else if kd = 7 then 50 :: 11 :: z_T0 ok else [11]
def z_V2 (kd ok n x : Int32) : Int32 := if kd = 3 then (x ^^^ n) * 3 else if kd = 5 then (x ^^^ n) * 3 else if kd = 4 then (x ^^^ n) - z_V0 ok n 2 else if kd = 7 then (x ^^^ n) - z_V0 ok n 2 else x ^^^ n
def z_T1 (kd ok : Int32) : List Int32 := if kd = 3 then 41 :: 30 :: 10 :: z_T0 ok else if kd = 5 then 41 :: 30 :: 10 :: z_T0 ok else if kd = 2 then 30 :: 10 :: z_T0 ok else if kd = 7 then 80 :: 10 :: (z_T0 ok ++ z_T2 ok ok) else 10 :: z_T0 ok
def z_V1 (kd ok n x : Int32) : Int32 := if kd = 3 then -(z_V0 ok n (x + 1) * 2) else if kd = 5 then -(z_V0 ok n (x + 1) * 2) else if kd = 2 then -(z_V0 ok n x * 2) else if kd = 7 then z_V0 ok n x * 2 + z_V2 ok ok n 2 else z_V0 ok n x * 2
def z_T3 (kd ok : Int32) : List Int32 := if kd = 5 then 60 :: 2 :: (z_T1 ok ok ++ z_T2 ok ok) else if kd = 7 then 81 :: 2 :: (z_T1 ok ok ++ z_T2 ok ok) else 2 :: (z_T1 ok ok ++ z_T2 ok ok)
def z_V3 (kd ok n x : Int32) : Int32 := if kd = 5 then (z_V1 ok ok n x - z_V2 ok ok n 1) ^^^ 5 else if kd = 7 then z_V1 ok ok n x - z_V2 ok ok n 1 - 1 else z_V1 ok ok n x - z_V2 ok ok n 1
theorem z_L0 (kd : Int32) : (z_T0 kd).length ≤ 2 := by
  unfold z_T0
  (repeat' split) <;> decide
theorem z_L2 (kd ok : Int32) : (z_T2 kd ok).length ≤ 4 := by
  have := z_L0 ok
  unfold z_T2
  (repeat' split) <;> first | decide | (simp only [List.length_cons]; omega)
theorem z_L1 (kd ok : Int32) : (z_T1 kd ok).length ≤ 8 := by
  have := z_L0 ok
  have := z_L2 ok ok
  unfold z_T1
  (repeat' split) <;> (simp only [List.length_cons, List.length_append]; omega)
theorem z_si {x y : Int32} (h : x = y) : some (Value.int x) = some (Value.int y) := by rw [h]
theorem z_actC {mi : z_Mi} {d : Nat} {av : List Value} {sh : z_Sh} {μ : z_M} {mc ms : Nat} {v v' : Int32} {I1 I2 : Nat → Nat → Int32} {L : Nat → Nat → Int64} {R : Nat → Nat → Option Nat} (h : z_CT mi d av sh μ mc ms (z_ret (some (.int v)) (I1, L, R))) (h1 : v = v') (h2 : I1 = I2) : z_CT mi d av sh μ mc ms (z_ret (some (.int v')) (I2, L, R)) := by
  subst h1; subst h2; exact h
set_option maxHeartbeats 1000000 in
set_option maxRecDepth 100000 in
theorem c_X9_judgesAsA0 (d : Nat) (hd : 2 ≤ d) (b : Bool) (I : Nat → Nat → Int32) (L : Nat → Nat → Int64) (n : Nat) (hr : z_rn n I) (hn : n ≤ 900) (x : Int32) : z_CT zm_X9_judgesAs d [.ref 54, .int 0, .int x] SH (I, L, z_R b) 0 0 (z_ret (some (.int (x + (I 54 37)))) ((z_PL I ([1])), L, z_R b)) := by
  refine z_enter (by decide +kernel) (Nat.le_of_ble_eq_true rfl) ?_
  have hentry : PW zm_X9_judgesAs d 0 [(0, .ref 54), (1, .int 0), (2, .int x)] [] SH (I, L, z_R b) 0 0 (z_ret (some (.int (x + (I 54 37)))) ((z_PL I ([1])), L, z_R b)) := by
    refine p_iload_n (z_dec zd_X9_judgesAs 0 rfl) rfl 1 rfl (n := 1) rfl ?_
    refine p_iconst (z_dec zd_X9_judgesAs 1 rfl) (v := 1) (by decide) (n := 2) rfl ?_
    refine p_icmp_eq (z_dec zd_X9_judgesAs 2 rfl) (t := 16) (by decide) (n := 5) rfl (fun h2 => ?_) (fun h2 => ?_)
    · exact absurd h2 (by decide)
    · refine p_iload_n (z_dec zd_X9_judgesAs 3 rfl) rfl 1 rfl (n := 6) rfl ?_
      refine p_iconst (z_dec zd_X9_judgesAs 4 rfl) (v := 4) (by decide) (n := 7) rfl ?_
      refine p_icmp_eq (z_dec zd_X9_judgesAs 5 rfl) (t := 16) (by decide) (n := 10) rfl (fun h7 => ?_) (fun h7 => ?_)
      · exact absurd h7 (by decide)
      · refine p_iload_n (z_dec zd_X9_judgesAs 6 rfl) rfl 1 rfl (n := 11) rfl ?_
        refine p_bipush (z_dec zd_X9_judgesAs 7 rfl) (v := 7) (by decide) (n := 13) rfl ?_
        refine p_icmp_ne (z_dec zd_X9_judgesAs 8 rfl) (t := 31) (by decide) (n := 16) rfl (fun h13 => ?_) (fun h13 => ?_)
        · refine p_iload_n (z_dec zd_X9_judgesAs 19 rfl) rfl 1 rfl (n := 32) rfl ?_
          refine p_bipush (z_dec zd_X9_judgesAs 20 rfl) (v := 6) (by decide) (n := 34) rfl ?_
          refine p_icmp_ne (z_dec zd_X9_judgesAs 21 rfl) (t := 52) (by decide) (n := 37) rfl (fun h34 => ?_) (fun h34 => ?_)
          · refine p_aload_n (z_dec zd_X9_judgesAs 32 rfl) rfl 0 rfl (n := 53) rfl ?_
            refine p_iconst (z_dec zd_X9_judgesAs 33 rfl) (v := 1) (by decide) (n := 54) rfl ?_
            refine q_callV (As := [.int 1]) (rest := []) (z_dec zd_X9_judgesAs 34 rfl) zk_X9_300 zv_X9_runs (c_X9_runs (d - 1) (by omega) b I L (I 54 35).toNatClampNeg hr.1 (Nat.lt_of_le_of_lt hr.2 (by omega)) 1) rfl ⟨_, _, rfl⟩ rfl rfl (Nat.le_of_ble_eq_true rfl) (by omega) (n := 57) rfl ?_
            show PW zm_X9_judgesAs d 57 [(0, .ref 54), (1, .int 0), (2, .int x)] [] SH ((z_pM I 1), L, z_R b) 0 0 _
            have hP57 : z_rn (n + 1) ((z_pM I 1)) := z_rnP hr (by omega) _
            refine p_iload_n (z_dec zd_X9_judgesAs 35 rfl) rfl 2 rfl (n := 58) rfl ?_
            refine p_aload_n (z_dec zd_X9_judgesAs 36 rfl) rfl 0 rfl (n := 59) rfl ?_
            refine q_getI (z_dec zd_X9_judgesAs 37 rfl) zf_X9_306 (by decide) rfl (v := (I 54 37)) (z_pMF _ _ (by decide)) (n := 62) rfl ?_
            refine p_iadd (z_dec zd_X9_judgesAs 38 rfl) (n := 63) rfl ?_
            exact p_iret (z_dec zd_X9_judgesAs 39 rfl) rfl ⟨(z_si (by rfl)), rfl, (z_3 (by simp only [z_PL, List.foldl_cons, List.foldl_nil, List.foldl_append]) rfl)⟩
          · exact absurd h34 (by decide)
        · exact absurd h13 (by decide)
  exact hentry
set_option maxHeartbeats 1000000 in
set_option maxRecDepth 100000 in
theorem c_X9_judgesAsA (d : Nat) (hd : 3 ≤ d) (b : Bool) (I : Nat → Nat → Int32) (L : Nat → Nat → Int64) (n : Nat) (hr : z_rn n I) (hn : n ≤ 890) (kd : Int32) (x : Int32) : z_CT zm_X9_judgesAs d [.ref 54, .int kd, .int x] SH (I, L, z_R b) 0 0 (z_ret (some (.int (z_V0 kd (I 54 37) x))) ((z_PL I (z_T0 kd)), L, z_R b)) := by
  refine z_enter (by decide +kernel) (Nat.le_of_ble_eq_true rfl) ?_
  have hentry : PW zm_X9_judgesAs d 0 [(0, .ref 54), (1, .int kd), (2, .int x)] [] SH (I, L, z_R b) 0 0 (z_ret (some (.int (z_V0 kd (I 54 37) x))) ((z_PL I (z_T0 kd)), L, z_R b)) := by
    refine p_iload_n (z_dec zd_X9_judgesAs 0 rfl) rfl 1 rfl (n := 1) rfl ?_
    refine p_iconst (z_dec zd_X9_judgesAs 1 rfl) (v := 1) (by decide) (n := 2) rfl ?_
    refine p_icmp_eq (z_dec zd_X9_judgesAs 2 rfl) (t := 16) (by decide) (n := 5) rfl (fun h2 => ?_) (fun h2 => ?_)
    · refine p_aload_n (z_dec zd_X9_judgesAs 9 rfl) rfl 0 rfl (n := 17) rfl ?_
      refine p_bipush (z_dec zd_X9_judgesAs 10 rfl) (v := 20) (by decide) (n := 19) rfl ?_
      refine q_callV (As := [.int 20]) (rest := []) (z_dec zd_X9_judgesAs 11 rfl) zk_X9_300 zv_X9_runs (c_X9_runs (d - 1) (by omega) b I L (I 54 35).toNatClampNeg hr.1 (Nat.lt_of_le_of_lt hr.2 (by omega)) 20) rfl ⟨_, _, rfl⟩ rfl rfl (Nat.le_of_ble_eq_true rfl) (by omega) (n := 22) rfl ?_
      show PW zm_X9_judgesAs d 22 [(0, .ref 54), (1, .int kd), (2, .int x)] [] SH ((z_pM I 20), L, z_R b) 0 0 _
      have hP22 : z_rn (n + 1) ((z_pM I 20)) := z_rnP hr (by omega) _
      refine p_aload_n (z_dec zd_X9_judgesAs 12 rfl) rfl 0 rfl (n := 23) rfl ?_
      refine p_iconst (z_dec zd_X9_judgesAs 13 rfl) (v := 0) (by decide) (n := 24) rfl ?_
      refine p_iload_n (z_dec zd_X9_judgesAs 14 rfl) rfl 2 rfl (n := 25) rfl ?_
      refine q_callV (As := [.int 0, .int x]) (rest := []) (z_dec zd_X9_judgesAs 15 rfl) zk_X9_303 zv_X9_judgesAs ((z_actC (v' := x + (I 54 37)) (I2 := (z_PL (z_pM I 20) ([1]))) (c_X9_judgesAsA0 (d - 1) (by omega) b (z_pM I 20) L (n + 1) hP22 (by omega) x) (by first | (simp only [z_pMF _ _ (show (36 : Nat) ≠ 35 by decide), z_pMF _ _ (show (37 : Nat) ≠ 35 by decide), z_PLF _ (show (36 : Nat) ≠ 35 by decide), z_PLF _ (show (37 : Nat) ≠ 35 by decide)]; done) | rfl) (by first | (simp only [z_pMF _ _ (show (36 : Nat) ≠ 35 by decide), z_pMF _ _ (show (37 : Nat) ≠ 35 by decide), z_PLF _ (show (36 : Nat) ≠ 35 by decide), z_PLF _ (show (37 : Nat) ≠ 35 by decide)]; done) | rfl))) rfl ⟨_, _, rfl⟩ rfl rfl (Nat.le_of_ble_eq_true rfl) (by omega) (n := 28) rfl ?_
      show PW zm_X9_judgesAs d 28 [(0, .ref 54), (1, .int kd), (2, .int x)] [.int (x + (I 54 37))] SH ((z_PL (z_pM I 20) ([1])), L, z_R b) 0 0 _
      have hP28 : z_rn (n + 1 + 1) ((z_PL (z_pM I 20) ([1]))) := z_rnL hP22 _ _ (Nat.le_refl _) (by omega)
      refine p_iconst (z_dec zd_X9_judgesAs 16 rfl) (v := 3) (by decide) (n := 29) rfl ?_
      refine p_iadd (z_dec zd_X9_judgesAs 17 rfl) (n := 30) rfl ?_
      exact p_iret (z_dec zd_X9_judgesAs 18 rfl) rfl ⟨(z_si (by symm; unfold z_V0; rw [if_pos h2])), rfl, (z_3 (by symm; unfold z_T0; rw [if_pos h2]; simp only [z_PL, List.foldl_cons, List.foldl_nil, List.foldl_append]) rfl)⟩
    · refine p_iload_n (z_dec zd_X9_judgesAs 3 rfl) rfl 1 rfl (n := 6) rfl ?_
      refine p_iconst (z_dec zd_X9_judgesAs 4 rfl) (v := 4) (by decide) (n := 7) rfl ?_
      refine p_icmp_eq (z_dec zd_X9_judgesAs 5 rfl) (t := 16) (by decide) (n := 10) rfl (fun h7 => ?_) (fun h7 => ?_)
      · refine p_aload_n (z_dec zd_X9_judgesAs 9 rfl) rfl 0 rfl (n := 17) rfl ?_
        refine p_bipush (z_dec zd_X9_judgesAs 10 rfl) (v := 20) (by decide) (n := 19) rfl ?_
        refine q_callV (As := [.int 20]) (rest := []) (z_dec zd_X9_judgesAs 11 rfl) zk_X9_300 zv_X9_runs (c_X9_runs (d - 1) (by omega) b I L (I 54 35).toNatClampNeg hr.1 (Nat.lt_of_le_of_lt hr.2 (by omega)) 20) rfl ⟨_, _, rfl⟩ rfl rfl (Nat.le_of_ble_eq_true rfl) (by omega) (n := 22) rfl ?_
        show PW zm_X9_judgesAs d 22 [(0, .ref 54), (1, .int kd), (2, .int x)] [] SH ((z_pM I 20), L, z_R b) 0 0 _
        have hP22 : z_rn (n + 1) ((z_pM I 20)) := z_rnP hr (by omega) _
        refine p_aload_n (z_dec zd_X9_judgesAs 12 rfl) rfl 0 rfl (n := 23) rfl ?_
        refine p_iconst (z_dec zd_X9_judgesAs 13 rfl) (v := 0) (by decide) (n := 24) rfl ?_
        refine p_iload_n (z_dec zd_X9_judgesAs 14 rfl) rfl 2 rfl (n := 25) rfl ?_
        refine q_callV (As := [.int 0, .int x]) (rest := []) (z_dec zd_X9_judgesAs 15 rfl) zk_X9_303 zv_X9_judgesAs ((z_actC (v' := x + (I 54 37)) (I2 := (z_PL (z_pM I 20) ([1]))) (c_X9_judgesAsA0 (d - 1) (by omega) b (z_pM I 20) L (n + 1) hP22 (by omega) x) (by first | (simp only [z_pMF _ _ (show (36 : Nat) ≠ 35 by decide), z_pMF _ _ (show (37 : Nat) ≠ 35 by decide), z_PLF _ (show (36 : Nat) ≠ 35 by decide), z_PLF _ (show (37 : Nat) ≠ 35 by decide)]; done) | rfl) (by first | (simp only [z_pMF _ _ (show (36 : Nat) ≠ 35 by decide), z_pMF _ _ (show (37 : Nat) ≠ 35 by decide), z_PLF _ (show (36 : Nat) ≠ 35 by decide), z_PLF _ (show (37 : Nat) ≠ 35 by decide)]; done) | rfl))) rfl ⟨_, _, rfl⟩ rfl rfl (Nat.le_of_ble_eq_true rfl) (by omega) (n := 28) rfl ?_
        show PW zm_X9_judgesAs d 28 [(0, .ref 54), (1, .int kd), (2, .int x)] [.int (x + (I 54 37))] SH ((z_PL (z_pM I 20) ([1])), L, z_R b) 0 0 _
        have hP28 : z_rn (n + 1 + 1) ((z_PL (z_pM I 20) ([1]))) := z_rnL hP22 _ _ (Nat.le_refl _) (by omega)
        refine p_iconst (z_dec zd_X9_judgesAs 16 rfl) (v := 3) (by decide) (n := 29) rfl ?_
        refine p_iadd (z_dec zd_X9_judgesAs 17 rfl) (n := 30) rfl ?_
        exact p_iret (z_dec zd_X9_judgesAs 18 rfl) rfl ⟨(z_si (by symm; unfold z_V0; rw [if_neg h2, if_pos h7])), rfl, (z_3 (by symm; unfold z_T0; rw [if_neg h2, if_pos h7]; simp only [z_PL, List.foldl_cons, List.foldl_nil, List.foldl_append]) rfl)⟩
      · refine p_iload_n (z_dec zd_X9_judgesAs 6 rfl) rfl 1 rfl (n := 11) rfl ?_
        refine p_bipush (z_dec zd_X9_judgesAs 7 rfl) (v := 7) (by decide) (n := 13) rfl ?_
        refine p_icmp_ne (z_dec zd_X9_judgesAs 8 rfl) (t := 31) (by decide) (n := 16) rfl (fun h13 => ?_) (fun h13 => ?_)
        · refine p_iload_n (z_dec zd_X9_judgesAs 19 rfl) rfl 1 rfl (n := 32) rfl ?_
          refine p_bipush (z_dec zd_X9_judgesAs 20 rfl) (v := 6) (by decide) (n := 34) rfl ?_
          refine p_icmp_ne (z_dec zd_X9_judgesAs 21 rfl) (t := 52) (by decide) (n := 37) rfl (fun h34 => ?_) (fun h34 => ?_)
          · refine p_aload_n (z_dec zd_X9_judgesAs 32 rfl) rfl 0 rfl (n := 53) rfl ?_
            refine p_iconst (z_dec zd_X9_judgesAs 33 rfl) (v := 1) (by decide) (n := 54) rfl ?_
            refine q_callV (As := [.int 1]) (rest := []) (z_dec zd_X9_judgesAs 34 rfl) zk_X9_300 zv_X9_runs (c_X9_runs (d - 1) (by omega) b I L (I 54 35).toNatClampNeg hr.1 (Nat.lt_of_le_of_lt hr.2 (by omega)) 1) rfl ⟨_, _, rfl⟩ rfl rfl (Nat.le_of_ble_eq_true rfl) (by omega) (n := 57) rfl ?_
            show PW zm_X9_judgesAs d 57 [(0, .ref 54), (1, .int kd), (2, .int x)] [] SH ((z_pM I 1), L, z_R b) 0 0 _
            have hP57 : z_rn (n + 1) ((z_pM I 1)) := z_rnP hr (by omega) _
            refine p_iload_n (z_dec zd_X9_judgesAs 35 rfl) rfl 2 rfl (n := 58) rfl ?_
            refine p_aload_n (z_dec zd_X9_judgesAs 36 rfl) rfl 0 rfl (n := 59) rfl ?_
            refine q_getI (z_dec zd_X9_judgesAs 37 rfl) zf_X9_306 (by decide) rfl (v := (I 54 37)) (z_pMF _ _ (by decide)) (n := 62) rfl ?_
            refine p_iadd (z_dec zd_X9_judgesAs 38 rfl) (n := 63) rfl ?_
            exact p_iret (z_dec zd_X9_judgesAs 39 rfl) rfl ⟨(z_si (by symm; unfold z_V0; rw [if_neg h2, if_neg h7, if_neg h13, if_neg h34])), rfl, (z_3 (by symm; unfold z_T0; rw [if_neg h2, if_neg h7, if_neg h13, if_neg h34]; simp only [z_PL, List.foldl_cons, List.foldl_nil, List.foldl_append]) rfl)⟩
          · refine p_aload_n (z_dec zd_X9_judgesAs 22 rfl) rfl 0 rfl (n := 38) rfl ?_
            refine p_bipush (z_dec zd_X9_judgesAs 23 rfl) (v := 70) (by decide) (n := 40) rfl ?_
            refine q_callV (As := [.int 70]) (rest := []) (z_dec zd_X9_judgesAs 24 rfl) zk_X9_300 zv_X9_runs (c_X9_runs (d - 1) (by omega) b I L (I 54 35).toNatClampNeg hr.1 (Nat.lt_of_le_of_lt hr.2 (by omega)) 70) rfl ⟨_, _, rfl⟩ rfl rfl (Nat.le_of_ble_eq_true rfl) (by omega) (n := 43) rfl ?_
            show PW zm_X9_judgesAs d 43 [(0, .ref 54), (1, .int kd), (2, .int x)] [] SH ((z_pM I 70), L, z_R b) 0 0 _
            have hP43 : z_rn (n + 1) ((z_pM I 70)) := z_rnP hr (by omega) _
            refine p_aload_n (z_dec zd_X9_judgesAs 25 rfl) rfl 0 rfl (n := 44) rfl ?_
            refine p_iconst (z_dec zd_X9_judgesAs 26 rfl) (v := 0) (by decide) (n := 45) rfl ?_
            refine p_iload_n (z_dec zd_X9_judgesAs 27 rfl) rfl 2 rfl (n := 46) rfl ?_
            refine q_callV (As := [.int 0, .int x]) (rest := []) (z_dec zd_X9_judgesAs 28 rfl) zk_X9_303 zv_X9_judgesAs ((z_actC (v' := x + (I 54 37)) (I2 := (z_PL (z_pM I 70) ([1]))) (c_X9_judgesAsA0 (d - 1) (by omega) b (z_pM I 70) L (n + 1) hP43 (by omega) x) (by first | (simp only [z_pMF _ _ (show (36 : Nat) ≠ 35 by decide), z_pMF _ _ (show (37 : Nat) ≠ 35 by decide), z_PLF _ (show (36 : Nat) ≠ 35 by decide), z_PLF _ (show (37 : Nat) ≠ 35 by decide)]; done) | rfl) (by first | (simp only [z_pMF _ _ (show (36 : Nat) ≠ 35 by decide), z_pMF _ _ (show (37 : Nat) ≠ 35 by decide), z_PLF _ (show (36 : Nat) ≠ 35 by decide), z_PLF _ (show (37 : Nat) ≠ 35 by decide)]; done) | rfl))) rfl ⟨_, _, rfl⟩ rfl rfl (Nat.le_of_ble_eq_true rfl) (by omega) (n := 49) rfl ?_
            show PW zm_X9_judgesAs d 49 [(0, .ref 54), (1, .int kd), (2, .int x)] [.int (x + (I 54 37))] SH ((z_PL (z_pM I 70) ([1])), L, z_R b) 0 0 _
            have hP49 : z_rn (n + 1 + 1) ((z_PL (z_pM I 70) ([1]))) := z_rnL hP43 _ _ (Nat.le_refl _) (by omega)
            refine p_iconst (z_dec zd_X9_judgesAs 29 rfl) (v := 2) (by decide) (n := 50) rfl ?_
            refine p_imul (z_dec zd_X9_judgesAs 30 rfl) (n := 51) rfl ?_
            exact p_iret (z_dec zd_X9_judgesAs 31 rfl) rfl ⟨(z_si (by symm; unfold z_V0; rw [if_neg h2, if_neg h7, if_neg h13, if_pos h34])), rfl, (z_3 (by symm; unfold z_T0; rw [if_neg h2, if_neg h7, if_neg h13, if_pos h34]; simp only [z_PL, List.foldl_cons, List.foldl_nil, List.foldl_append]) rfl)⟩
        · refine p_aload_n (z_dec zd_X9_judgesAs 9 rfl) rfl 0 rfl (n := 17) rfl ?_
          refine p_bipush (z_dec zd_X9_judgesAs 10 rfl) (v := 20) (by decide) (n := 19) rfl ?_
          refine q_callV (As := [.int 20]) (rest := []) (z_dec zd_X9_judgesAs 11 rfl) zk_X9_300 zv_X9_runs (c_X9_runs (d - 1) (by omega) b I L (I 54 35).toNatClampNeg hr.1 (Nat.lt_of_le_of_lt hr.2 (by omega)) 20) rfl ⟨_, _, rfl⟩ rfl rfl (Nat.le_of_ble_eq_true rfl) (by omega) (n := 22) rfl ?_
          show PW zm_X9_judgesAs d 22 [(0, .ref 54), (1, .int kd), (2, .int x)] [] SH ((z_pM I 20), L, z_R b) 0 0 _
          have hP22 : z_rn (n + 1) ((z_pM I 20)) := z_rnP hr (by omega) _
          refine p_aload_n (z_dec zd_X9_judgesAs 12 rfl) rfl 0 rfl (n := 23) rfl ?_
          refine p_iconst (z_dec zd_X9_judgesAs 13 rfl) (v := 0) (by decide) (n := 24) rfl ?_
          refine p_iload_n (z_dec zd_X9_judgesAs 14 rfl) rfl 2 rfl (n := 25) rfl ?_
          refine q_callV (As := [.int 0, .int x]) (rest := []) (z_dec zd_X9_judgesAs 15 rfl) zk_X9_303 zv_X9_judgesAs ((z_actC (v' := x + (I 54 37)) (I2 := (z_PL (z_pM I 20) ([1]))) (c_X9_judgesAsA0 (d - 1) (by omega) b (z_pM I 20) L (n + 1) hP22 (by omega) x) (by first | (simp only [z_pMF _ _ (show (36 : Nat) ≠ 35 by decide), z_pMF _ _ (show (37 : Nat) ≠ 35 by decide), z_PLF _ (show (36 : Nat) ≠ 35 by decide), z_PLF _ (show (37 : Nat) ≠ 35 by decide)]; done) | rfl) (by first | (simp only [z_pMF _ _ (show (36 : Nat) ≠ 35 by decide), z_pMF _ _ (show (37 : Nat) ≠ 35 by decide), z_PLF _ (show (36 : Nat) ≠ 35 by decide), z_PLF _ (show (37 : Nat) ≠ 35 by decide)]; done) | rfl))) rfl ⟨_, _, rfl⟩ rfl rfl (Nat.le_of_ble_eq_true rfl) (by omega) (n := 28) rfl ?_
          show PW zm_X9_judgesAs d 28 [(0, .ref 54), (1, .int kd), (2, .int x)] [.int (x + (I 54 37))] SH ((z_PL (z_pM I 20) ([1])), L, z_R b) 0 0 _
          have hP28 : z_rn (n + 1 + 1) ((z_PL (z_pM I 20) ([1]))) := z_rnL hP22 _ _ (Nat.le_refl _) (by omega)
          refine p_iconst (z_dec zd_X9_judgesAs 16 rfl) (v := 3) (by decide) (n := 29) rfl ?_
          refine p_iadd (z_dec zd_X9_judgesAs 17 rfl) (n := 30) rfl ?_
          exact p_iret (z_dec zd_X9_judgesAs 18 rfl) rfl ⟨(z_si (by symm; unfold z_V0; rw [if_neg h2, if_neg h7, if_pos h13])), rfl, (z_3 (by symm; unfold z_T0; rw [if_neg h2, if_neg h7, if_pos h13]; simp only [z_PL, List.foldl_cons, List.foldl_nil, List.foldl_append]) rfl)⟩
  exact hentry
set_option maxHeartbeats 1000000 in
set_option maxRecDepth 100000 in
theorem c_X9_losesAsA1 (d : Nat) (hd : 4 ≤ d) (b : Bool) (I : Nat → Nat → Int32) (L : Nat → Nat → Int64) (n : Nat) (hr : z_rn n I) (hn : n ≤ 880) (x : Int32) : z_CT zm_X9_losesAs d [.ref 54, .int 1, .int x] SH (I, L, z_R b) 0 0 (z_ret (some (.int (x ^^^ (I 54 37)))) ((z_PL I ([11])), L, z_R b)) := by
  refine z_enter (by decide +kernel) (Nat.le_of_ble_eq_true rfl) ?_
  have hentry : PW zm_X9_losesAs d 0 [(0, .ref 54), (1, .int 1), (2, .int x)] [] SH (I, L, z_R b) 0 0 (z_ret (some (.int (x ^^^ (I 54 37)))) ((z_PL I ([11])), L, z_R b)) := by
    refine p_iload_n (z_dec zd_X9_losesAs 0 rfl) rfl 1 rfl (n := 1) rfl ?_
    refine p_iconst (z_dec zd_X9_losesAs 1 rfl) (v := 3) (by decide) (n := 2) rfl ?_
    refine p_icmp_eq (z_dec zd_X9_losesAs 2 rfl) (t := 10) (by decide) (n := 5) rfl (fun h2 => ?_) (fun h2 => ?_)
    · exact absurd h2 (by decide)
    · refine p_iload_n (z_dec zd_X9_losesAs 3 rfl) rfl 1 rfl (n := 6) rfl ?_
      refine p_iconst (z_dec zd_X9_losesAs 4 rfl) (v := 5) (by decide) (n := 7) rfl ?_
      refine p_icmp_ne (z_dec zd_X9_losesAs 5 rfl) (t := 25) (by decide) (n := 10) rfl (fun h7 => ?_) (fun h7 => ?_)
      · refine p_iload_n (z_dec zd_X9_losesAs 16 rfl) rfl 1 rfl (n := 26) rfl ?_
        refine p_iconst (z_dec zd_X9_losesAs 17 rfl) (v := 4) (by decide) (n := 27) rfl ?_
        refine p_icmp_eq (z_dec zd_X9_losesAs 18 rfl) (t := 36) (by decide) (n := 30) rfl (fun h27 => ?_) (fun h27 => ?_)
        · exact absurd h27 (by decide)
        · refine p_iload_n (z_dec zd_X9_losesAs 19 rfl) rfl 1 rfl (n := 31) rfl ?_
          refine p_bipush (z_dec zd_X9_losesAs 20 rfl) (v := 7) (by decide) (n := 33) rfl ?_
          refine p_icmp_ne (z_dec zd_X9_losesAs 21 rfl) (t := 61) (by decide) (n := 36) rfl (fun h33 => ?_) (fun h33 => ?_)
          · refine p_aload_n (z_dec zd_X9_losesAs 38 rfl) rfl 0 rfl (n := 62) rfl ?_
            refine p_bipush (z_dec zd_X9_losesAs 39 rfl) (v := 11) (by decide) (n := 64) rfl ?_
            refine q_callV (As := [.int 11]) (rest := []) (z_dec zd_X9_losesAs 40 rfl) zk_X9_300 zv_X9_runs (c_X9_runs (d - 1) (by omega) b I L (I 54 35).toNatClampNeg hr.1 (Nat.lt_of_le_of_lt hr.2 (by omega)) 11) rfl ⟨_, _, rfl⟩ rfl rfl (Nat.le_of_ble_eq_true rfl) (by omega) (n := 67) rfl ?_
            show PW zm_X9_losesAs d 67 [(0, .ref 54), (1, .int 1), (2, .int x)] [] SH ((z_pM I 11), L, z_R b) 0 0 _
            have hP67 : z_rn (n + 1) ((z_pM I 11)) := z_rnP hr (by omega) _
            refine p_iload_n (z_dec zd_X9_losesAs 41 rfl) rfl 2 rfl (n := 68) rfl ?_
            refine p_aload_n (z_dec zd_X9_losesAs 42 rfl) rfl 0 rfl (n := 69) rfl ?_
            refine q_getI (z_dec zd_X9_losesAs 43 rfl) zf_X9_306 (by decide) rfl (v := (I 54 37)) (z_pMF _ _ (by decide)) (n := 72) rfl ?_
            refine p_ixor (z_dec zd_X9_losesAs 44 rfl) (n := 73) rfl ?_
            exact p_iret (z_dec zd_X9_losesAs 45 rfl) rfl ⟨(z_si (by rfl)), rfl, (z_3 (by simp only [z_PL, List.foldl_cons, List.foldl_nil, List.foldl_append]) rfl)⟩
          · exact absurd h33 (by decide)
      · exact absurd h7 (by decide)
  exact hentry
set_option maxHeartbeats 1000000 in
set_option maxRecDepth 100000 in
theorem c_X9_losesAsA2 (d : Nat) (hd : 4 ≤ d) (b : Bool) (I : Nat → Nat → Int32) (L : Nat → Nat → Int64) (n : Nat) (hr : z_rn n I) (hn : n ≤ 880) (x : Int32) : z_CT zm_X9_losesAs d [.ref 54, .int 2, .int x] SH (I, L, z_R b) 0 0 (z_ret (some (.int (x ^^^ (I 54 37)))) ((z_PL I ([11])), L, z_R b)) := by
  refine z_enter (by decide +kernel) (Nat.le_of_ble_eq_true rfl) ?_
  have hentry : PW zm_X9_losesAs d 0 [(0, .ref 54), (1, .int 2), (2, .int x)] [] SH (I, L, z_R b) 0 0 (z_ret (some (.int (x ^^^ (I 54 37)))) ((z_PL I ([11])), L, z_R b)) := by
    refine p_iload_n (z_dec zd_X9_losesAs 0 rfl) rfl 1 rfl (n := 1) rfl ?_
    refine p_iconst (z_dec zd_X9_losesAs 1 rfl) (v := 3) (by decide) (n := 2) rfl ?_
    refine p_icmp_eq (z_dec zd_X9_losesAs 2 rfl) (t := 10) (by decide) (n := 5) rfl (fun h2 => ?_) (fun h2 => ?_)
    · exact absurd h2 (by decide)
    · refine p_iload_n (z_dec zd_X9_losesAs 3 rfl) rfl 1 rfl (n := 6) rfl ?_
      refine p_iconst (z_dec zd_X9_losesAs 4 rfl) (v := 5) (by decide) (n := 7) rfl ?_
      refine p_icmp_ne (z_dec zd_X9_losesAs 5 rfl) (t := 25) (by decide) (n := 10) rfl (fun h7 => ?_) (fun h7 => ?_)
      · refine p_iload_n (z_dec zd_X9_losesAs 16 rfl) rfl 1 rfl (n := 26) rfl ?_
        refine p_iconst (z_dec zd_X9_losesAs 17 rfl) (v := 4) (by decide) (n := 27) rfl ?_
        refine p_icmp_eq (z_dec zd_X9_losesAs 18 rfl) (t := 36) (by decide) (n := 30) rfl (fun h27 => ?_) (fun h27 => ?_)
        · exact absurd h27 (by decide)
        · refine p_iload_n (z_dec zd_X9_losesAs 19 rfl) rfl 1 rfl (n := 31) rfl ?_
          refine p_bipush (z_dec zd_X9_losesAs 20 rfl) (v := 7) (by decide) (n := 33) rfl ?_
          refine p_icmp_ne (z_dec zd_X9_losesAs 21 rfl) (t := 61) (by decide) (n := 36) rfl (fun h33 => ?_) (fun h33 => ?_)
          · refine p_aload_n (z_dec zd_X9_losesAs 38 rfl) rfl 0 rfl (n := 62) rfl ?_
            refine p_bipush (z_dec zd_X9_losesAs 39 rfl) (v := 11) (by decide) (n := 64) rfl ?_
            refine q_callV (As := [.int 11]) (rest := []) (z_dec zd_X9_losesAs 40 rfl) zk_X9_300 zv_X9_runs (c_X9_runs (d - 1) (by omega) b I L (I 54 35).toNatClampNeg hr.1 (Nat.lt_of_le_of_lt hr.2 (by omega)) 11) rfl ⟨_, _, rfl⟩ rfl rfl (Nat.le_of_ble_eq_true rfl) (by omega) (n := 67) rfl ?_
            show PW zm_X9_losesAs d 67 [(0, .ref 54), (1, .int 2), (2, .int x)] [] SH ((z_pM I 11), L, z_R b) 0 0 _
            have hP67 : z_rn (n + 1) ((z_pM I 11)) := z_rnP hr (by omega) _
            refine p_iload_n (z_dec zd_X9_losesAs 41 rfl) rfl 2 rfl (n := 68) rfl ?_
            refine p_aload_n (z_dec zd_X9_losesAs 42 rfl) rfl 0 rfl (n := 69) rfl ?_
            refine q_getI (z_dec zd_X9_losesAs 43 rfl) zf_X9_306 (by decide) rfl (v := (I 54 37)) (z_pMF _ _ (by decide)) (n := 72) rfl ?_
            refine p_ixor (z_dec zd_X9_losesAs 44 rfl) (n := 73) rfl ?_
            exact p_iret (z_dec zd_X9_losesAs 45 rfl) rfl ⟨(z_si (by rfl)), rfl, (z_3 (by simp only [z_PL, List.foldl_cons, List.foldl_nil, List.foldl_append]) rfl)⟩
          · exact absurd h33 (by decide)
      · exact absurd h7 (by decide)
  exact hentry
set_option maxHeartbeats 1000000 in
set_option maxRecDepth 100000 in
theorem c_X9_losesAsA (d : Nat) (hd : 5 ≤ d) (b : Bool) (I : Nat → Nat → Int32) (L : Nat → Nat → Int64) (n : Nat) (hr : z_rn n I) (hn : n ≤ 870) (kd : Int32) (x : Int32) : z_CT zm_X9_losesAs d [.ref 54, .int kd, .int x] SH (I, L, z_R b) 0 0 (z_ret (some (.int (z_V2 kd (I 54 36) (I 54 37) x))) ((z_PL I (z_T2 kd (I 54 36))), L, z_R b)) := by
  refine z_enter (by decide +kernel) (Nat.le_of_ble_eq_true rfl) ?_
  have hentry : PW zm_X9_losesAs d 0 [(0, .ref 54), (1, .int kd), (2, .int x)] [] SH (I, L, z_R b) 0 0 (z_ret (some (.int (z_V2 kd (I 54 36) (I 54 37) x))) ((z_PL I (z_T2 kd (I 54 36))), L, z_R b)) := by
    refine p_iload_n (z_dec zd_X9_losesAs 0 rfl) rfl 1 rfl (n := 1) rfl ?_
    refine p_iconst (z_dec zd_X9_losesAs 1 rfl) (v := 3) (by decide) (n := 2) rfl ?_
    refine p_icmp_eq (z_dec zd_X9_losesAs 2 rfl) (t := 10) (by decide) (n := 5) rfl (fun h2 => ?_) (fun h2 => ?_)
    · refine p_aload_n (z_dec zd_X9_losesAs 6 rfl) rfl 0 rfl (n := 11) rfl ?_
      refine p_bipush (z_dec zd_X9_losesAs 7 rfl) (v := 40) (by decide) (n := 13) rfl ?_
      refine q_callV (As := [.int 40]) (rest := []) (z_dec zd_X9_losesAs 8 rfl) zk_X9_300 zv_X9_runs (c_X9_runs (d - 1) (by omega) b I L (I 54 35).toNatClampNeg hr.1 (Nat.lt_of_le_of_lt hr.2 (by omega)) 40) rfl ⟨_, _, rfl⟩ rfl rfl (Nat.le_of_ble_eq_true rfl) (by omega) (n := 16) rfl ?_
      show PW zm_X9_losesAs d 16 [(0, .ref 54), (1, .int kd), (2, .int x)] [] SH ((z_pM I 40), L, z_R b) 0 0 _
      have hP16 : z_rn (n + 1) ((z_pM I 40)) := z_rnP hr (by omega) _
      refine p_aload_n (z_dec zd_X9_losesAs 9 rfl) rfl 0 rfl (n := 17) rfl ?_
      refine p_iconst (z_dec zd_X9_losesAs 10 rfl) (v := 2) (by decide) (n := 18) rfl ?_
      refine p_iload_n (z_dec zd_X9_losesAs 11 rfl) rfl 2 rfl (n := 19) rfl ?_
      refine q_callV (As := [.int 2, .int x]) (rest := []) (z_dec zd_X9_losesAs 12 rfl) zk_X9_315 zv_X9_losesAs ((z_actC (v' := x ^^^ (I 54 37)) (I2 := (z_PL (z_pM I 40) ([11]))) (c_X9_losesAsA2 (d - 1) (by omega) b (z_pM I 40) L (n + 1) hP16 (by omega) x) (by first | (simp only [z_pMF _ _ (show (36 : Nat) ≠ 35 by decide), z_pMF _ _ (show (37 : Nat) ≠ 35 by decide), z_PLF _ (show (36 : Nat) ≠ 35 by decide), z_PLF _ (show (37 : Nat) ≠ 35 by decide)]; done) | rfl) (by first | (simp only [z_pMF _ _ (show (36 : Nat) ≠ 35 by decide), z_pMF _ _ (show (37 : Nat) ≠ 35 by decide), z_PLF _ (show (36 : Nat) ≠ 35 by decide), z_PLF _ (show (37 : Nat) ≠ 35 by decide)]; done) | rfl))) rfl ⟨_, _, rfl⟩ rfl rfl (Nat.le_of_ble_eq_true rfl) (by omega) (n := 22) rfl ?_
      show PW zm_X9_losesAs d 22 [(0, .ref 54), (1, .int kd), (2, .int x)] [.int (x ^^^ (I 54 37))] SH ((z_PL (z_pM I 40) ([11])), L, z_R b) 0 0 _
      have hP22 : z_rn (n + 1 + 1) ((z_PL (z_pM I 40) ([11]))) := z_rnL hP16 _ _ (Nat.le_refl _) (by omega)
      refine p_iconst (z_dec zd_X9_losesAs 13 rfl) (v := 3) (by decide) (n := 23) rfl ?_
      refine p_imul (z_dec zd_X9_losesAs 14 rfl) (n := 24) rfl ?_
      exact p_iret (z_dec zd_X9_losesAs 15 rfl) rfl ⟨(z_si (by symm; unfold z_V2; rw [if_pos h2])), rfl, (z_3 (by symm; unfold z_T2; rw [if_pos h2]; simp only [z_PL, List.foldl_cons, List.foldl_nil, List.foldl_append]) rfl)⟩
    · refine p_iload_n (z_dec zd_X9_losesAs 3 rfl) rfl 1 rfl (n := 6) rfl ?_
      refine p_iconst (z_dec zd_X9_losesAs 4 rfl) (v := 5) (by decide) (n := 7) rfl ?_
      refine p_icmp_ne (z_dec zd_X9_losesAs 5 rfl) (t := 25) (by decide) (n := 10) rfl (fun h7 => ?_) (fun h7 => ?_)
      · refine p_iload_n (z_dec zd_X9_losesAs 16 rfl) rfl 1 rfl (n := 26) rfl ?_
        refine p_iconst (z_dec zd_X9_losesAs 17 rfl) (v := 4) (by decide) (n := 27) rfl ?_
        refine p_icmp_eq (z_dec zd_X9_losesAs 18 rfl) (t := 36) (by decide) (n := 30) rfl (fun h27 => ?_) (fun h27 => ?_)
        · refine p_aload_n (z_dec zd_X9_losesAs 22 rfl) rfl 0 rfl (n := 37) rfl ?_
          refine p_bipush (z_dec zd_X9_losesAs 23 rfl) (v := 50) (by decide) (n := 39) rfl ?_
          refine q_callV (As := [.int 50]) (rest := []) (z_dec zd_X9_losesAs 24 rfl) zk_X9_300 zv_X9_runs (c_X9_runs (d - 1) (by omega) b I L (I 54 35).toNatClampNeg hr.1 (Nat.lt_of_le_of_lt hr.2 (by omega)) 50) rfl ⟨_, _, rfl⟩ rfl rfl (Nat.le_of_ble_eq_true rfl) (by omega) (n := 42) rfl ?_
          show PW zm_X9_losesAs d 42 [(0, .ref 54), (1, .int kd), (2, .int x)] [] SH ((z_pM I 50), L, z_R b) 0 0 _
          have hP42 : z_rn (n + 1) ((z_pM I 50)) := z_rnP hr (by omega) _
          refine p_aload_n (z_dec zd_X9_losesAs 25 rfl) rfl 0 rfl (n := 43) rfl ?_
          refine p_iconst (z_dec zd_X9_losesAs 26 rfl) (v := 1) (by decide) (n := 44) rfl ?_
          refine p_iload_n (z_dec zd_X9_losesAs 27 rfl) rfl 2 rfl (n := 45) rfl ?_
          refine q_callV (As := [.int 1, .int x]) (rest := []) (z_dec zd_X9_losesAs 28 rfl) zk_X9_315 zv_X9_losesAs ((z_actC (v' := x ^^^ (I 54 37)) (I2 := (z_PL (z_pM I 50) ([11]))) (c_X9_losesAsA1 (d - 1) (by omega) b (z_pM I 50) L (n + 1) hP42 (by omega) x) (by first | (simp only [z_pMF _ _ (show (36 : Nat) ≠ 35 by decide), z_pMF _ _ (show (37 : Nat) ≠ 35 by decide), z_PLF _ (show (36 : Nat) ≠ 35 by decide), z_PLF _ (show (37 : Nat) ≠ 35 by decide)]; done) | rfl) (by first | (simp only [z_pMF _ _ (show (36 : Nat) ≠ 35 by decide), z_pMF _ _ (show (37 : Nat) ≠ 35 by decide), z_PLF _ (show (36 : Nat) ≠ 35 by decide), z_PLF _ (show (37 : Nat) ≠ 35 by decide)]; done) | rfl))) rfl ⟨_, _, rfl⟩ rfl rfl (Nat.le_of_ble_eq_true rfl) (by omega) (n := 48) rfl ?_
          show PW zm_X9_losesAs d 48 [(0, .ref 54), (1, .int kd), (2, .int x)] [.int (x ^^^ (I 54 37))] SH ((z_PL (z_pM I 50) ([11])), L, z_R b) 0 0 _
          have hP48 : z_rn (n + 1 + 1) ((z_PL (z_pM I 50) ([11]))) := z_rnL hP42 _ _ (Nat.le_refl _) (by omega)
          refine p_istore_n (z_dec zd_X9_losesAs 29 rfl) rfl (lv2 := [(3, .int (x ^^^ (I 54 37))), (0, .ref 54), (1, .int kd), (2, .int x)]) (by decide) rfl (n := 49) rfl ?_
          refine p_iload_n (z_dec zd_X9_losesAs 30 rfl) rfl 0 rfl (n := 50) rfl ?_
          refine p_aload_n (z_dec zd_X9_losesAs 31 rfl) rfl 1 rfl (n := 51) rfl ?_
          refine p_aload_n (z_dec zd_X9_losesAs 32 rfl) rfl 1 rfl (n := 52) rfl ?_
          refine q_getI (z_dec zd_X9_losesAs 33 rfl) zf_X9_312 (by decide) rfl (v := (I 54 36)) ((z_PLF _ (by decide) _).trans (z_pMF _ _ (by decide))) (n := 55) rfl ?_
          refine p_iconst (z_dec zd_X9_losesAs 34 rfl) (v := 2) (by decide) (n := 56) rfl ?_
          refine q_callV (As := [.int (I 54 36), .int 2]) (rest := [.int (x ^^^ (I 54 37))]) (z_dec zd_X9_losesAs 35 rfl) zk_X9_303 zv_X9_judgesAs ((z_actC (v' := z_V0 (I 54 36) (I 54 37) 2) (I2 := (z_PL (z_PL (z_pM I 50) ([11])) (z_T0 (I 54 36)))) (c_X9_judgesAsA (d - 1) (by omega) b (z_PL (z_pM I 50) ([11])) L (n + 1 + 1) hP48 (by omega) (I 54 36) 2) (by first | (simp only [z_pMF _ _ (show (36 : Nat) ≠ 35 by decide), z_pMF _ _ (show (37 : Nat) ≠ 35 by decide), z_PLF _ (show (36 : Nat) ≠ 35 by decide), z_PLF _ (show (37 : Nat) ≠ 35 by decide)]; done) | rfl) (by first | (simp only [z_pMF _ _ (show (36 : Nat) ≠ 35 by decide), z_pMF _ _ (show (37 : Nat) ≠ 35 by decide), z_PLF _ (show (36 : Nat) ≠ 35 by decide), z_PLF _ (show (37 : Nat) ≠ 35 by decide)]; done) | rfl))) rfl ⟨_, _, rfl⟩ rfl rfl (Nat.le_of_ble_eq_true rfl) (by omega) (n := 59) rfl ?_
          show PW zm_X9_losesAs d 59 [(3, .int (x ^^^ (I 54 37))), (0, .ref 54), (1, .int kd), (2, .int x)] [.int (z_V0 (I 54 36) (I 54 37) 2), .int (x ^^^ (I 54 37))] SH ((z_PL (z_PL (z_pM I 50) ([11])) (z_T0 (I 54 36))), L, z_R b) 0 0 _
          have hP59 : z_rn (n + 1 + 1 + 2) ((z_PL (z_PL (z_pM I 50) ([11])) (z_T0 (I 54 36)))) := z_rnL hP48 _ _ (z_L0 _) (by omega)
          refine p_isub (z_dec zd_X9_losesAs 36 rfl) (n := 60) rfl ?_
          exact p_iret (z_dec zd_X9_losesAs 37 rfl) rfl ⟨(z_si (by symm; unfold z_V2; rw [if_neg h2, if_neg h7, if_pos h27])), rfl, (z_3 (by symm; unfold z_T2; rw [if_neg h2, if_neg h7, if_pos h27]; simp only [z_PL, List.foldl_cons, List.foldl_nil, List.foldl_append]) rfl)⟩
        · refine p_iload_n (z_dec zd_X9_losesAs 19 rfl) rfl 1 rfl (n := 31) rfl ?_
          refine p_bipush (z_dec zd_X9_losesAs 20 rfl) (v := 7) (by decide) (n := 33) rfl ?_
          refine p_icmp_ne (z_dec zd_X9_losesAs 21 rfl) (t := 61) (by decide) (n := 36) rfl (fun h33 => ?_) (fun h33 => ?_)
          · refine p_aload_n (z_dec zd_X9_losesAs 38 rfl) rfl 0 rfl (n := 62) rfl ?_
            refine p_bipush (z_dec zd_X9_losesAs 39 rfl) (v := 11) (by decide) (n := 64) rfl ?_
            refine q_callV (As := [.int 11]) (rest := []) (z_dec zd_X9_losesAs 40 rfl) zk_X9_300 zv_X9_runs (c_X9_runs (d - 1) (by omega) b I L (I 54 35).toNatClampNeg hr.1 (Nat.lt_of_le_of_lt hr.2 (by omega)) 11) rfl ⟨_, _, rfl⟩ rfl rfl (Nat.le_of_ble_eq_true rfl) (by omega) (n := 67) rfl ?_
            show PW zm_X9_losesAs d 67 [(0, .ref 54), (1, .int kd), (2, .int x)] [] SH ((z_pM I 11), L, z_R b) 0 0 _
            have hP67 : z_rn (n + 1) ((z_pM I 11)) := z_rnP hr (by omega) _
            refine p_iload_n (z_dec zd_X9_losesAs 41 rfl) rfl 2 rfl (n := 68) rfl ?_
            refine p_aload_n (z_dec zd_X9_losesAs 42 rfl) rfl 0 rfl (n := 69) rfl ?_
            refine q_getI (z_dec zd_X9_losesAs 43 rfl) zf_X9_306 (by decide) rfl (v := (I 54 37)) (z_pMF _ _ (by decide)) (n := 72) rfl ?_
            refine p_ixor (z_dec zd_X9_losesAs 44 rfl) (n := 73) rfl ?_
            exact p_iret (z_dec zd_X9_losesAs 45 rfl) rfl ⟨(z_si (by symm; unfold z_V2; rw [if_neg h2, if_neg h7, if_neg h27, if_neg h33])), rfl, (z_3 (by symm; unfold z_T2; rw [if_neg h2, if_neg h7, if_neg h27, if_neg h33]; simp only [z_PL, List.foldl_cons, List.foldl_nil, List.foldl_append]) rfl)⟩
          · refine p_aload_n (z_dec zd_X9_losesAs 22 rfl) rfl 0 rfl (n := 37) rfl ?_
            refine p_bipush (z_dec zd_X9_losesAs 23 rfl) (v := 50) (by decide) (n := 39) rfl ?_
            refine q_callV (As := [.int 50]) (rest := []) (z_dec zd_X9_losesAs 24 rfl) zk_X9_300 zv_X9_runs (c_X9_runs (d - 1) (by omega) b I L (I 54 35).toNatClampNeg hr.1 (Nat.lt_of_le_of_lt hr.2 (by omega)) 50) rfl ⟨_, _, rfl⟩ rfl rfl (Nat.le_of_ble_eq_true rfl) (by omega) (n := 42) rfl ?_
            show PW zm_X9_losesAs d 42 [(0, .ref 54), (1, .int kd), (2, .int x)] [] SH ((z_pM I 50), L, z_R b) 0 0 _
            have hP42 : z_rn (n + 1) ((z_pM I 50)) := z_rnP hr (by omega) _
            refine p_aload_n (z_dec zd_X9_losesAs 25 rfl) rfl 0 rfl (n := 43) rfl ?_
            refine p_iconst (z_dec zd_X9_losesAs 26 rfl) (v := 1) (by decide) (n := 44) rfl ?_
            refine p_iload_n (z_dec zd_X9_losesAs 27 rfl) rfl 2 rfl (n := 45) rfl ?_
            refine q_callV (As := [.int 1, .int x]) (rest := []) (z_dec zd_X9_losesAs 28 rfl) zk_X9_315 zv_X9_losesAs ((z_actC (v' := x ^^^ (I 54 37)) (I2 := (z_PL (z_pM I 50) ([11]))) (c_X9_losesAsA1 (d - 1) (by omega) b (z_pM I 50) L (n + 1) hP42 (by omega) x) (by first | (simp only [z_pMF _ _ (show (36 : Nat) ≠ 35 by decide), z_pMF _ _ (show (37 : Nat) ≠ 35 by decide), z_PLF _ (show (36 : Nat) ≠ 35 by decide), z_PLF _ (show (37 : Nat) ≠ 35 by decide)]; done) | rfl) (by first | (simp only [z_pMF _ _ (show (36 : Nat) ≠ 35 by decide), z_pMF _ _ (show (37 : Nat) ≠ 35 by decide), z_PLF _ (show (36 : Nat) ≠ 35 by decide), z_PLF _ (show (37 : Nat) ≠ 35 by decide)]; done) | rfl))) rfl ⟨_, _, rfl⟩ rfl rfl (Nat.le_of_ble_eq_true rfl) (by omega) (n := 48) rfl ?_
            show PW zm_X9_losesAs d 48 [(0, .ref 54), (1, .int kd), (2, .int x)] [.int (x ^^^ (I 54 37))] SH ((z_PL (z_pM I 50) ([11])), L, z_R b) 0 0 _
            have hP48 : z_rn (n + 1 + 1) ((z_PL (z_pM I 50) ([11]))) := z_rnL hP42 _ _ (Nat.le_refl _) (by omega)
            refine p_istore_n (z_dec zd_X9_losesAs 29 rfl) rfl (lv2 := [(3, .int (x ^^^ (I 54 37))), (0, .ref 54), (1, .int kd), (2, .int x)]) (by decide) rfl (n := 49) rfl ?_
            refine p_iload_n (z_dec zd_X9_losesAs 30 rfl) rfl 0 rfl (n := 50) rfl ?_
            refine p_aload_n (z_dec zd_X9_losesAs 31 rfl) rfl 1 rfl (n := 51) rfl ?_
            refine p_aload_n (z_dec zd_X9_losesAs 32 rfl) rfl 1 rfl (n := 52) rfl ?_
            refine q_getI (z_dec zd_X9_losesAs 33 rfl) zf_X9_312 (by decide) rfl (v := (I 54 36)) ((z_PLF _ (by decide) _).trans (z_pMF _ _ (by decide))) (n := 55) rfl ?_
            refine p_iconst (z_dec zd_X9_losesAs 34 rfl) (v := 2) (by decide) (n := 56) rfl ?_
            refine q_callV (As := [.int (I 54 36), .int 2]) (rest := [.int (x ^^^ (I 54 37))]) (z_dec zd_X9_losesAs 35 rfl) zk_X9_303 zv_X9_judgesAs ((z_actC (v' := z_V0 (I 54 36) (I 54 37) 2) (I2 := (z_PL (z_PL (z_pM I 50) ([11])) (z_T0 (I 54 36)))) (c_X9_judgesAsA (d - 1) (by omega) b (z_PL (z_pM I 50) ([11])) L (n + 1 + 1) hP48 (by omega) (I 54 36) 2) (by first | (simp only [z_pMF _ _ (show (36 : Nat) ≠ 35 by decide), z_pMF _ _ (show (37 : Nat) ≠ 35 by decide), z_PLF _ (show (36 : Nat) ≠ 35 by decide), z_PLF _ (show (37 : Nat) ≠ 35 by decide)]; done) | rfl) (by first | (simp only [z_pMF _ _ (show (36 : Nat) ≠ 35 by decide), z_pMF _ _ (show (37 : Nat) ≠ 35 by decide), z_PLF _ (show (36 : Nat) ≠ 35 by decide), z_PLF _ (show (37 : Nat) ≠ 35 by decide)]; done) | rfl))) rfl ⟨_, _, rfl⟩ rfl rfl (Nat.le_of_ble_eq_true rfl) (by omega) (n := 59) rfl ?_
            show PW zm_X9_losesAs d 59 [(3, .int (x ^^^ (I 54 37))), (0, .ref 54), (1, .int kd), (2, .int x)] [.int (z_V0 (I 54 36) (I 54 37) 2), .int (x ^^^ (I 54 37))] SH ((z_PL (z_PL (z_pM I 50) ([11])) (z_T0 (I 54 36))), L, z_R b) 0 0 _
            have hP59 : z_rn (n + 1 + 1 + 2) ((z_PL (z_PL (z_pM I 50) ([11])) (z_T0 (I 54 36)))) := z_rnL hP48 _ _ (z_L0 _) (by omega)
            refine p_isub (z_dec zd_X9_losesAs 36 rfl) (n := 60) rfl ?_
            exact p_iret (z_dec zd_X9_losesAs 37 rfl) rfl ⟨(z_si (by symm; unfold z_V2; rw [if_neg h2, if_neg h7, if_neg h27, if_pos h33])), rfl, (z_3 (by symm; unfold z_T2; rw [if_neg h2, if_neg h7, if_neg h27, if_pos h33]; simp only [z_PL, List.foldl_cons, List.foldl_nil, List.foldl_append]) rfl)⟩
      · refine p_aload_n (z_dec zd_X9_losesAs 6 rfl) rfl 0 rfl (n := 11) rfl ?_
        refine p_bipush (z_dec zd_X9_losesAs 7 rfl) (v := 40) (by decide) (n := 13) rfl ?_
        refine q_callV (As := [.int 40]) (rest := []) (z_dec zd_X9_losesAs 8 rfl) zk_X9_300 zv_X9_runs (c_X9_runs (d - 1) (by omega) b I L (I 54 35).toNatClampNeg hr.1 (Nat.lt_of_le_of_lt hr.2 (by omega)) 40) rfl ⟨_, _, rfl⟩ rfl rfl (Nat.le_of_ble_eq_true rfl) (by omega) (n := 16) rfl ?_
        show PW zm_X9_losesAs d 16 [(0, .ref 54), (1, .int kd), (2, .int x)] [] SH ((z_pM I 40), L, z_R b) 0 0 _
        have hP16 : z_rn (n + 1) ((z_pM I 40)) := z_rnP hr (by omega) _
        refine p_aload_n (z_dec zd_X9_losesAs 9 rfl) rfl 0 rfl (n := 17) rfl ?_
        refine p_iconst (z_dec zd_X9_losesAs 10 rfl) (v := 2) (by decide) (n := 18) rfl ?_
        refine p_iload_n (z_dec zd_X9_losesAs 11 rfl) rfl 2 rfl (n := 19) rfl ?_
        refine q_callV (As := [.int 2, .int x]) (rest := []) (z_dec zd_X9_losesAs 12 rfl) zk_X9_315 zv_X9_losesAs ((z_actC (v' := x ^^^ (I 54 37)) (I2 := (z_PL (z_pM I 40) ([11]))) (c_X9_losesAsA2 (d - 1) (by omega) b (z_pM I 40) L (n + 1) hP16 (by omega) x) (by first | (simp only [z_pMF _ _ (show (36 : Nat) ≠ 35 by decide), z_pMF _ _ (show (37 : Nat) ≠ 35 by decide), z_PLF _ (show (36 : Nat) ≠ 35 by decide), z_PLF _ (show (37 : Nat) ≠ 35 by decide)]; done) | rfl) (by first | (simp only [z_pMF _ _ (show (36 : Nat) ≠ 35 by decide), z_pMF _ _ (show (37 : Nat) ≠ 35 by decide), z_PLF _ (show (36 : Nat) ≠ 35 by decide), z_PLF _ (show (37 : Nat) ≠ 35 by decide)]; done) | rfl))) rfl ⟨_, _, rfl⟩ rfl rfl (Nat.le_of_ble_eq_true rfl) (by omega) (n := 22) rfl ?_
        show PW zm_X9_losesAs d 22 [(0, .ref 54), (1, .int kd), (2, .int x)] [.int (x ^^^ (I 54 37))] SH ((z_PL (z_pM I 40) ([11])), L, z_R b) 0 0 _
        have hP22 : z_rn (n + 1 + 1) ((z_PL (z_pM I 40) ([11]))) := z_rnL hP16 _ _ (Nat.le_refl _) (by omega)
        refine p_iconst (z_dec zd_X9_losesAs 13 rfl) (v := 3) (by decide) (n := 23) rfl ?_
        refine p_imul (z_dec zd_X9_losesAs 14 rfl) (n := 24) rfl ?_
        exact p_iret (z_dec zd_X9_losesAs 15 rfl) rfl ⟨(z_si (by symm; unfold z_V2; rw [if_neg h2, if_pos h7])), rfl, (z_3 (by symm; unfold z_T2; rw [if_neg h2, if_pos h7]; simp only [z_PL, List.foldl_cons, List.foldl_nil, List.foldl_append]) rfl)⟩
  exact hentry
set_option maxHeartbeats 1000000 in
set_option maxRecDepth 100000 in
theorem c_X9_callsAsA0 (d : Nat) (hd : 6 ≤ d) (b : Bool) (I : Nat → Nat → Int32) (L : Nat → Nat → Int64) (n : Nat) (hr : z_rn n I) (hn : n ≤ 860) (x : Int32) : z_CT zm_X9_callsAs d [.ref 54, .int 0, .int x] SH (I, L, z_R b) 0 0 (z_ret (some (.int (z_V0 (I 54 36) (I 54 37) x * 2))) ((z_PL I (10 :: z_T0 (I 54 36))), L, z_R b)) := by
  refine z_enter (by decide +kernel) (Nat.le_of_ble_eq_true rfl) ?_
  have hentry : PW zm_X9_callsAs d 0 [(0, .ref 54), (1, .int 0), (2, .int x)] [] SH (I, L, z_R b) 0 0 (z_ret (some (.int (z_V0 (I 54 36) (I 54 37) x * 2))) ((z_PL I (10 :: z_T0 (I 54 36))), L, z_R b)) := by
    refine p_iload_n (z_dec zd_X9_callsAs 0 rfl) rfl 1 rfl (n := 1) rfl ?_
    refine p_iconst (z_dec zd_X9_callsAs 1 rfl) (v := 3) (by decide) (n := 2) rfl ?_
    refine p_icmp_eq (z_dec zd_X9_callsAs 2 rfl) (t := 10) (by decide) (n := 5) rfl (fun h2 => ?_) (fun h2 => ?_)
    · exact absurd h2 (by decide)
    · refine p_iload_n (z_dec zd_X9_callsAs 3 rfl) rfl 1 rfl (n := 6) rfl ?_
      refine p_iconst (z_dec zd_X9_callsAs 4 rfl) (v := 5) (by decide) (n := 7) rfl ?_
      refine p_icmp_ne (z_dec zd_X9_callsAs 5 rfl) (t := 25) (by decide) (n := 10) rfl (fun h7 => ?_) (fun h7 => ?_)
      · refine p_iload_n (z_dec zd_X9_callsAs 16 rfl) rfl 1 rfl (n := 26) rfl ?_
        refine p_iconst (z_dec zd_X9_callsAs 17 rfl) (v := 2) (by decide) (n := 27) rfl ?_
        refine p_icmp_ne (z_dec zd_X9_callsAs 18 rfl) (t := 44) (by decide) (n := 30) rfl (fun h27 => ?_) (fun h27 => ?_)
        · refine p_iload_n (z_dec zd_X9_callsAs 28 rfl) rfl 1 rfl (n := 45) rfl ?_
          refine p_bipush (z_dec zd_X9_callsAs 29 rfl) (v := 7) (by decide) (n := 47) rfl ?_
          refine p_icmp_ne (z_dec zd_X9_callsAs 30 rfl) (t := 75) (by decide) (n := 50) rfl (fun h47 => ?_) (fun h47 => ?_)
          · refine p_aload_n (z_dec zd_X9_callsAs 47 rfl) rfl 0 rfl (n := 76) rfl ?_
            refine p_bipush (z_dec zd_X9_callsAs 48 rfl) (v := 10) (by decide) (n := 78) rfl ?_
            refine q_callV (As := [.int 10]) (rest := []) (z_dec zd_X9_callsAs 49 rfl) zk_X9_300 zv_X9_runs (c_X9_runs (d - 1) (by omega) b I L (I 54 35).toNatClampNeg hr.1 (Nat.lt_of_le_of_lt hr.2 (by omega)) 10) rfl ⟨_, _, rfl⟩ rfl rfl (Nat.le_of_ble_eq_true rfl) (by omega) (n := 81) rfl ?_
            show PW zm_X9_callsAs d 81 [(0, .ref 54), (1, .int 0), (2, .int x)] [] SH ((z_pM I 10), L, z_R b) 0 0 _
            have hP81 : z_rn (n + 1) ((z_pM I 10)) := z_rnP hr (by omega) _
            refine p_aload_n (z_dec zd_X9_callsAs 50 rfl) rfl 0 rfl (n := 82) rfl ?_
            refine p_aload_n (z_dec zd_X9_callsAs 51 rfl) rfl 0 rfl (n := 83) rfl ?_
            refine q_getI (z_dec zd_X9_callsAs 52 rfl) zf_X9_312 (by decide) rfl (v := (I 54 36)) (z_pMF _ _ (by decide)) (n := 86) rfl ?_
            refine p_iload_n (z_dec zd_X9_callsAs 53 rfl) rfl 2 rfl (n := 87) rfl ?_
            refine q_callV (As := [.int (I 54 36), .int x]) (rest := []) (z_dec zd_X9_callsAs 54 rfl) zk_X9_303 zv_X9_judgesAs ((z_actC (v' := z_V0 (I 54 36) (I 54 37) x) (I2 := (z_PL (z_pM I 10) (z_T0 (I 54 36)))) (c_X9_judgesAsA (d - 1) (by omega) b (z_pM I 10) L (n + 1) hP81 (by omega) (I 54 36) x) (by first | (simp only [z_pMF _ _ (show (36 : Nat) ≠ 35 by decide), z_pMF _ _ (show (37 : Nat) ≠ 35 by decide), z_PLF _ (show (36 : Nat) ≠ 35 by decide), z_PLF _ (show (37 : Nat) ≠ 35 by decide)]; done) | rfl) (by first | (simp only [z_pMF _ _ (show (36 : Nat) ≠ 35 by decide), z_pMF _ _ (show (37 : Nat) ≠ 35 by decide), z_PLF _ (show (36 : Nat) ≠ 35 by decide), z_PLF _ (show (37 : Nat) ≠ 35 by decide)]; done) | rfl))) rfl ⟨_, _, rfl⟩ rfl rfl (Nat.le_of_ble_eq_true rfl) (by omega) (n := 90) rfl ?_
            show PW zm_X9_callsAs d 90 [(0, .ref 54), (1, .int 0), (2, .int x)] [.int (z_V0 (I 54 36) (I 54 37) x)] SH ((z_PL (z_pM I 10) (z_T0 (I 54 36))), L, z_R b) 0 0 _
            have hP90 : z_rn (n + 1 + 2) ((z_PL (z_pM I 10) (z_T0 (I 54 36)))) := z_rnL hP81 _ _ (z_L0 _) (by omega)
            refine p_iconst (z_dec zd_X9_callsAs 55 rfl) (v := 2) (by decide) (n := 91) rfl ?_
            refine p_imul (z_dec zd_X9_callsAs 56 rfl) (n := 92) rfl ?_
            exact p_iret (z_dec zd_X9_callsAs 57 rfl) rfl ⟨(z_si (by rfl)), rfl, (z_3 (by simp only [z_PL, List.foldl_cons, List.foldl_nil, List.foldl_append]) rfl)⟩
          · exact absurd h47 (by decide)
        · exact absurd h27 (by decide)
      · exact absurd h7 (by decide)
  exact hentry
set_option maxHeartbeats 1000000 in
set_option maxRecDepth 100000 in
theorem c_X9_callsAsA4 (d : Nat) (hd : 6 ≤ d) (b : Bool) (I : Nat → Nat → Int32) (L : Nat → Nat → Int64) (n : Nat) (hr : z_rn n I) (hn : n ≤ 860) (x : Int32) : z_CT zm_X9_callsAs d [.ref 54, .int 4, .int x] SH (I, L, z_R b) 0 0 (z_ret (some (.int (z_V0 (I 54 36) (I 54 37) x * 2))) ((z_PL I (10 :: z_T0 (I 54 36))), L, z_R b)) := by
  refine z_enter (by decide +kernel) (Nat.le_of_ble_eq_true rfl) ?_
  have hentry : PW zm_X9_callsAs d 0 [(0, .ref 54), (1, .int 4), (2, .int x)] [] SH (I, L, z_R b) 0 0 (z_ret (some (.int (z_V0 (I 54 36) (I 54 37) x * 2))) ((z_PL I (10 :: z_T0 (I 54 36))), L, z_R b)) := by
    refine p_iload_n (z_dec zd_X9_callsAs 0 rfl) rfl 1 rfl (n := 1) rfl ?_
    refine p_iconst (z_dec zd_X9_callsAs 1 rfl) (v := 3) (by decide) (n := 2) rfl ?_
    refine p_icmp_eq (z_dec zd_X9_callsAs 2 rfl) (t := 10) (by decide) (n := 5) rfl (fun h2 => ?_) (fun h2 => ?_)
    · exact absurd h2 (by decide)
    · refine p_iload_n (z_dec zd_X9_callsAs 3 rfl) rfl 1 rfl (n := 6) rfl ?_
      refine p_iconst (z_dec zd_X9_callsAs 4 rfl) (v := 5) (by decide) (n := 7) rfl ?_
      refine p_icmp_ne (z_dec zd_X9_callsAs 5 rfl) (t := 25) (by decide) (n := 10) rfl (fun h7 => ?_) (fun h7 => ?_)
      · refine p_iload_n (z_dec zd_X9_callsAs 16 rfl) rfl 1 rfl (n := 26) rfl ?_
        refine p_iconst (z_dec zd_X9_callsAs 17 rfl) (v := 2) (by decide) (n := 27) rfl ?_
        refine p_icmp_ne (z_dec zd_X9_callsAs 18 rfl) (t := 44) (by decide) (n := 30) rfl (fun h27 => ?_) (fun h27 => ?_)
        · refine p_iload_n (z_dec zd_X9_callsAs 28 rfl) rfl 1 rfl (n := 45) rfl ?_
          refine p_bipush (z_dec zd_X9_callsAs 29 rfl) (v := 7) (by decide) (n := 47) rfl ?_
          refine p_icmp_ne (z_dec zd_X9_callsAs 30 rfl) (t := 75) (by decide) (n := 50) rfl (fun h47 => ?_) (fun h47 => ?_)
          · refine p_aload_n (z_dec zd_X9_callsAs 47 rfl) rfl 0 rfl (n := 76) rfl ?_
            refine p_bipush (z_dec zd_X9_callsAs 48 rfl) (v := 10) (by decide) (n := 78) rfl ?_
            refine q_callV (As := [.int 10]) (rest := []) (z_dec zd_X9_callsAs 49 rfl) zk_X9_300 zv_X9_runs (c_X9_runs (d - 1) (by omega) b I L (I 54 35).toNatClampNeg hr.1 (Nat.lt_of_le_of_lt hr.2 (by omega)) 10) rfl ⟨_, _, rfl⟩ rfl rfl (Nat.le_of_ble_eq_true rfl) (by omega) (n := 81) rfl ?_
            show PW zm_X9_callsAs d 81 [(0, .ref 54), (1, .int 4), (2, .int x)] [] SH ((z_pM I 10), L, z_R b) 0 0 _
            have hP81 : z_rn (n + 1) ((z_pM I 10)) := z_rnP hr (by omega) _
            refine p_aload_n (z_dec zd_X9_callsAs 50 rfl) rfl 0 rfl (n := 82) rfl ?_
            refine p_aload_n (z_dec zd_X9_callsAs 51 rfl) rfl 0 rfl (n := 83) rfl ?_
            refine q_getI (z_dec zd_X9_callsAs 52 rfl) zf_X9_312 (by decide) rfl (v := (I 54 36)) (z_pMF _ _ (by decide)) (n := 86) rfl ?_
            refine p_iload_n (z_dec zd_X9_callsAs 53 rfl) rfl 2 rfl (n := 87) rfl ?_
            refine q_callV (As := [.int (I 54 36), .int x]) (rest := []) (z_dec zd_X9_callsAs 54 rfl) zk_X9_303 zv_X9_judgesAs ((z_actC (v' := z_V0 (I 54 36) (I 54 37) x) (I2 := (z_PL (z_pM I 10) (z_T0 (I 54 36)))) (c_X9_judgesAsA (d - 1) (by omega) b (z_pM I 10) L (n + 1) hP81 (by omega) (I 54 36) x) (by first | (simp only [z_pMF _ _ (show (36 : Nat) ≠ 35 by decide), z_pMF _ _ (show (37 : Nat) ≠ 35 by decide), z_PLF _ (show (36 : Nat) ≠ 35 by decide), z_PLF _ (show (37 : Nat) ≠ 35 by decide)]; done) | rfl) (by first | (simp only [z_pMF _ _ (show (36 : Nat) ≠ 35 by decide), z_pMF _ _ (show (37 : Nat) ≠ 35 by decide), z_PLF _ (show (36 : Nat) ≠ 35 by decide), z_PLF _ (show (37 : Nat) ≠ 35 by decide)]; done) | rfl))) rfl ⟨_, _, rfl⟩ rfl rfl (Nat.le_of_ble_eq_true rfl) (by omega) (n := 90) rfl ?_
            show PW zm_X9_callsAs d 90 [(0, .ref 54), (1, .int 4), (2, .int x)] [.int (z_V0 (I 54 36) (I 54 37) x)] SH ((z_PL (z_pM I 10) (z_T0 (I 54 36))), L, z_R b) 0 0 _
            have hP90 : z_rn (n + 1 + 2) ((z_PL (z_pM I 10) (z_T0 (I 54 36)))) := z_rnL hP81 _ _ (z_L0 _) (by omega)
            refine p_iconst (z_dec zd_X9_callsAs 55 rfl) (v := 2) (by decide) (n := 91) rfl ?_
            refine p_imul (z_dec zd_X9_callsAs 56 rfl) (n := 92) rfl ?_
            exact p_iret (z_dec zd_X9_callsAs 57 rfl) rfl ⟨(z_si (by rfl)), rfl, (z_3 (by simp only [z_PL, List.foldl_cons, List.foldl_nil, List.foldl_append]) rfl)⟩
          · exact absurd h47 (by decide)
        · exact absurd h27 (by decide)
      · exact absurd h7 (by decide)
  exact hentry
set_option maxHeartbeats 1000000 in
set_option maxRecDepth 100000 in
theorem c_X9_callsAsA2 (d : Nat) (hd : 7 ≤ d) (b : Bool) (I : Nat → Nat → Int32) (L : Nat → Nat → Int64) (n : Nat) (hr : z_rn n I) (hn : n ≤ 850) (x : Int32) : z_CT zm_X9_callsAs d [.ref 54, .int 2, .int x] SH (I, L, z_R b) 0 0 (z_ret (some (.int (-(z_V0 (I 54 36) (I 54 37) x * 2)))) ((z_PL I (30 :: 10 :: z_T0 (I 54 36))), L, z_R b)) := by
  refine z_enter (by decide +kernel) (Nat.le_of_ble_eq_true rfl) ?_
  have hentry : PW zm_X9_callsAs d 0 [(0, .ref 54), (1, .int 2), (2, .int x)] [] SH (I, L, z_R b) 0 0 (z_ret (some (.int (-(z_V0 (I 54 36) (I 54 37) x * 2)))) ((z_PL I (30 :: 10 :: z_T0 (I 54 36))), L, z_R b)) := by
    refine p_iload_n (z_dec zd_X9_callsAs 0 rfl) rfl 1 rfl (n := 1) rfl ?_
    refine p_iconst (z_dec zd_X9_callsAs 1 rfl) (v := 3) (by decide) (n := 2) rfl ?_
    refine p_icmp_eq (z_dec zd_X9_callsAs 2 rfl) (t := 10) (by decide) (n := 5) rfl (fun h2 => ?_) (fun h2 => ?_)
    · exact absurd h2 (by decide)
    · refine p_iload_n (z_dec zd_X9_callsAs 3 rfl) rfl 1 rfl (n := 6) rfl ?_
      refine p_iconst (z_dec zd_X9_callsAs 4 rfl) (v := 5) (by decide) (n := 7) rfl ?_
      refine p_icmp_ne (z_dec zd_X9_callsAs 5 rfl) (t := 25) (by decide) (n := 10) rfl (fun h7 => ?_) (fun h7 => ?_)
      · refine p_iload_n (z_dec zd_X9_callsAs 16 rfl) rfl 1 rfl (n := 26) rfl ?_
        refine p_iconst (z_dec zd_X9_callsAs 17 rfl) (v := 2) (by decide) (n := 27) rfl ?_
        refine p_icmp_ne (z_dec zd_X9_callsAs 18 rfl) (t := 44) (by decide) (n := 30) rfl (fun h27 => ?_) (fun h27 => ?_)
        · exact absurd h27 (by decide)
        · refine p_aload_n (z_dec zd_X9_callsAs 19 rfl) rfl 0 rfl (n := 31) rfl ?_
          refine p_bipush (z_dec zd_X9_callsAs 20 rfl) (v := 30) (by decide) (n := 33) rfl ?_
          refine q_callV (As := [.int 30]) (rest := []) (z_dec zd_X9_callsAs 21 rfl) zk_X9_300 zv_X9_runs (c_X9_runs (d - 1) (by omega) b I L (I 54 35).toNatClampNeg hr.1 (Nat.lt_of_le_of_lt hr.2 (by omega)) 30) rfl ⟨_, _, rfl⟩ rfl rfl (Nat.le_of_ble_eq_true rfl) (by omega) (n := 36) rfl ?_
          show PW zm_X9_callsAs d 36 [(0, .ref 54), (1, .int 2), (2, .int x)] [] SH ((z_pM I 30), L, z_R b) 0 0 _
          have hP36 : z_rn (n + 1) ((z_pM I 30)) := z_rnP hr (by omega) _
          refine p_aload_n (z_dec zd_X9_callsAs 22 rfl) rfl 0 rfl (n := 37) rfl ?_
          refine p_iconst (z_dec zd_X9_callsAs 23 rfl) (v := 0) (by decide) (n := 38) rfl ?_
          refine p_iload_n (z_dec zd_X9_callsAs 24 rfl) rfl 2 rfl (n := 39) rfl ?_
          refine q_callV (As := [.int 0, .int x]) (rest := []) (z_dec zd_X9_callsAs 25 rfl) zk_X9_309 zv_X9_callsAs ((z_actC (v' := z_V0 (I 54 36) (I 54 37) x * 2) (I2 := (z_PL (z_pM I 30) (10 :: z_T0 (I 54 36)))) (c_X9_callsAsA0 (d - 1) (by omega) b (z_pM I 30) L (n + 1) hP36 (by omega) x) (by first | (simp only [z_pMF _ _ (show (36 : Nat) ≠ 35 by decide), z_pMF _ _ (show (37 : Nat) ≠ 35 by decide), z_PLF _ (show (36 : Nat) ≠ 35 by decide), z_PLF _ (show (37 : Nat) ≠ 35 by decide)]; done) | rfl) (by first | (simp only [z_pMF _ _ (show (36 : Nat) ≠ 35 by decide), z_pMF _ _ (show (37 : Nat) ≠ 35 by decide), z_PLF _ (show (36 : Nat) ≠ 35 by decide), z_PLF _ (show (37 : Nat) ≠ 35 by decide)]; done) | rfl))) rfl ⟨_, _, rfl⟩ rfl rfl (Nat.le_of_ble_eq_true rfl) (by omega) (n := 42) rfl ?_
          show PW zm_X9_callsAs d 42 [(0, .ref 54), (1, .int 2), (2, .int x)] [.int (z_V0 (I 54 36) (I 54 37) x * 2)] SH ((z_PL (z_pM I 30) (10 :: z_T0 (I 54 36))), L, z_R b) 0 0 _
          have hP42 : z_rn (n + 1 + 3) ((z_PL (z_pM I 30) (10 :: z_T0 (I 54 36)))) := z_rnL hP36 _ _ (Nat.succ_le_succ (z_L0 _)) (by omega)
          refine p_ineg (z_dec zd_X9_callsAs 26 rfl) (n := 43) rfl ?_
          exact p_iret (z_dec zd_X9_callsAs 27 rfl) rfl ⟨(z_si (by rfl)), rfl, (z_3 (by simp only [z_PL, List.foldl_cons, List.foldl_nil, List.foldl_append]) rfl)⟩
      · exact absurd h7 (by decide)
  exact hentry
set_option maxHeartbeats 1000000 in
set_option maxRecDepth 100000 in
theorem c_X9_callsAsA (d : Nat) (hd : 8 ≤ d) (b : Bool) (I : Nat → Nat → Int32) (L : Nat → Nat → Int64) (n : Nat) (hr : z_rn n I) (hn : n ≤ 840) (kd : Int32) (x : Int32) : z_CT zm_X9_callsAs d [.ref 54, .int kd, .int x] SH (I, L, z_R b) 0 0 (z_ret (some (.int (z_V1 kd (I 54 36) (I 54 37) x))) ((z_PL I (z_T1 kd (I 54 36))), L, z_R b)) := by
  refine z_enter (by decide +kernel) (Nat.le_of_ble_eq_true rfl) ?_
  have hentry : PW zm_X9_callsAs d 0 [(0, .ref 54), (1, .int kd), (2, .int x)] [] SH (I, L, z_R b) 0 0 (z_ret (some (.int (z_V1 kd (I 54 36) (I 54 37) x))) ((z_PL I (z_T1 kd (I 54 36))), L, z_R b)) := by
    refine p_iload_n (z_dec zd_X9_callsAs 0 rfl) rfl 1 rfl (n := 1) rfl ?_
    refine p_iconst (z_dec zd_X9_callsAs 1 rfl) (v := 3) (by decide) (n := 2) rfl ?_
    refine p_icmp_eq (z_dec zd_X9_callsAs 2 rfl) (t := 10) (by decide) (n := 5) rfl (fun h2 => ?_) (fun h2 => ?_)
    · refine p_aload_n (z_dec zd_X9_callsAs 6 rfl) rfl 0 rfl (n := 11) rfl ?_
      refine p_bipush (z_dec zd_X9_callsAs 7 rfl) (v := 41) (by decide) (n := 13) rfl ?_
      refine q_callV (As := [.int 41]) (rest := []) (z_dec zd_X9_callsAs 8 rfl) zk_X9_300 zv_X9_runs (c_X9_runs (d - 1) (by omega) b I L (I 54 35).toNatClampNeg hr.1 (Nat.lt_of_le_of_lt hr.2 (by omega)) 41) rfl ⟨_, _, rfl⟩ rfl rfl (Nat.le_of_ble_eq_true rfl) (by omega) (n := 16) rfl ?_
      show PW zm_X9_callsAs d 16 [(0, .ref 54), (1, .int kd), (2, .int x)] [] SH ((z_pM I 41), L, z_R b) 0 0 _
      have hP16 : z_rn (n + 1) ((z_pM I 41)) := z_rnP hr (by omega) _
      refine p_aload_n (z_dec zd_X9_callsAs 9 rfl) rfl 0 rfl (n := 17) rfl ?_
      refine p_iconst (z_dec zd_X9_callsAs 10 rfl) (v := 2) (by decide) (n := 18) rfl ?_
      refine p_iload_n (z_dec zd_X9_callsAs 11 rfl) rfl 2 rfl (n := 19) rfl ?_
      refine p_iconst (z_dec zd_X9_callsAs 12 rfl) (v := 1) (by decide) (n := 20) rfl ?_
      refine p_iadd (z_dec zd_X9_callsAs 13 rfl) (n := 21) rfl ?_
      refine q_callV (As := [.int 2, .int (x + 1)]) (rest := []) (z_dec zd_X9_callsAs 14 rfl) zk_X9_309 zv_X9_callsAs ((z_actC (v' := -(z_V0 (I 54 36) (I 54 37) (x + 1) * 2)) (I2 := (z_PL (z_pM I 41) (30 :: 10 :: z_T0 (I 54 36)))) (c_X9_callsAsA2 (d - 1) (by omega) b (z_pM I 41) L (n + 1) hP16 (by omega) (x + 1)) (by first | (simp only [z_pMF _ _ (show (36 : Nat) ≠ 35 by decide), z_pMF _ _ (show (37 : Nat) ≠ 35 by decide), z_PLF _ (show (36 : Nat) ≠ 35 by decide), z_PLF _ (show (37 : Nat) ≠ 35 by decide)]; done) | rfl) (by first | (simp only [z_pMF _ _ (show (36 : Nat) ≠ 35 by decide), z_pMF _ _ (show (37 : Nat) ≠ 35 by decide), z_PLF _ (show (36 : Nat) ≠ 35 by decide), z_PLF _ (show (37 : Nat) ≠ 35 by decide)]; done) | rfl))) rfl ⟨_, _, rfl⟩ rfl rfl (Nat.le_of_ble_eq_true rfl) (by omega) (n := 24) rfl ?_
      show PW zm_X9_callsAs d 24 [(0, .ref 54), (1, .int kd), (2, .int x)] [.int (-(z_V0 (I 54 36) (I 54 37) (x + 1) * 2))] SH ((z_PL (z_pM I 41) (30 :: 10 :: z_T0 (I 54 36))), L, z_R b) 0 0 _
      have hP24 : z_rn (n + 1 + 4) ((z_PL (z_pM I 41) (30 :: 10 :: z_T0 (I 54 36)))) := z_rnL hP16 _ _ (Nat.succ_le_succ (Nat.succ_le_succ (z_L0 _))) (by omega)
      exact p_iret (z_dec zd_X9_callsAs 15 rfl) rfl ⟨(z_si (by symm; unfold z_V1; rw [if_pos h2])), rfl, (z_3 (by symm; unfold z_T1; rw [if_pos h2]; simp only [z_PL, List.foldl_cons, List.foldl_nil, List.foldl_append]) rfl)⟩
    · refine p_iload_n (z_dec zd_X9_callsAs 3 rfl) rfl 1 rfl (n := 6) rfl ?_
      refine p_iconst (z_dec zd_X9_callsAs 4 rfl) (v := 5) (by decide) (n := 7) rfl ?_
      refine p_icmp_ne (z_dec zd_X9_callsAs 5 rfl) (t := 25) (by decide) (n := 10) rfl (fun h7 => ?_) (fun h7 => ?_)
      · refine p_iload_n (z_dec zd_X9_callsAs 16 rfl) rfl 1 rfl (n := 26) rfl ?_
        refine p_iconst (z_dec zd_X9_callsAs 17 rfl) (v := 2) (by decide) (n := 27) rfl ?_
        refine p_icmp_ne (z_dec zd_X9_callsAs 18 rfl) (t := 44) (by decide) (n := 30) rfl (fun h27 => ?_) (fun h27 => ?_)
        · refine p_iload_n (z_dec zd_X9_callsAs 28 rfl) rfl 1 rfl (n := 45) rfl ?_
          refine p_bipush (z_dec zd_X9_callsAs 29 rfl) (v := 7) (by decide) (n := 47) rfl ?_
          refine p_icmp_ne (z_dec zd_X9_callsAs 30 rfl) (t := 75) (by decide) (n := 50) rfl (fun h47 => ?_) (fun h47 => ?_)
          · refine p_aload_n (z_dec zd_X9_callsAs 47 rfl) rfl 0 rfl (n := 76) rfl ?_
            refine p_bipush (z_dec zd_X9_callsAs 48 rfl) (v := 10) (by decide) (n := 78) rfl ?_
            refine q_callV (As := [.int 10]) (rest := []) (z_dec zd_X9_callsAs 49 rfl) zk_X9_300 zv_X9_runs (c_X9_runs (d - 1) (by omega) b I L (I 54 35).toNatClampNeg hr.1 (Nat.lt_of_le_of_lt hr.2 (by omega)) 10) rfl ⟨_, _, rfl⟩ rfl rfl (Nat.le_of_ble_eq_true rfl) (by omega) (n := 81) rfl ?_
            show PW zm_X9_callsAs d 81 [(0, .ref 54), (1, .int kd), (2, .int x)] [] SH ((z_pM I 10), L, z_R b) 0 0 _
            have hP81 : z_rn (n + 1) ((z_pM I 10)) := z_rnP hr (by omega) _
            refine p_aload_n (z_dec zd_X9_callsAs 50 rfl) rfl 0 rfl (n := 82) rfl ?_
            refine p_aload_n (z_dec zd_X9_callsAs 51 rfl) rfl 0 rfl (n := 83) rfl ?_
            refine q_getI (z_dec zd_X9_callsAs 52 rfl) zf_X9_312 (by decide) rfl (v := (I 54 36)) (z_pMF _ _ (by decide)) (n := 86) rfl ?_
            refine p_iload_n (z_dec zd_X9_callsAs 53 rfl) rfl 2 rfl (n := 87) rfl ?_
            refine q_callV (As := [.int (I 54 36), .int x]) (rest := []) (z_dec zd_X9_callsAs 54 rfl) zk_X9_303 zv_X9_judgesAs ((z_actC (v' := z_V0 (I 54 36) (I 54 37) x) (I2 := (z_PL (z_pM I 10) (z_T0 (I 54 36)))) (c_X9_judgesAsA (d - 1) (by omega) b (z_pM I 10) L (n + 1) hP81 (by omega) (I 54 36) x) (by first | (simp only [z_pMF _ _ (show (36 : Nat) ≠ 35 by decide), z_pMF _ _ (show (37 : Nat) ≠ 35 by decide), z_PLF _ (show (36 : Nat) ≠ 35 by decide), z_PLF _ (show (37 : Nat) ≠ 35 by decide)]; done) | rfl) (by first | (simp only [z_pMF _ _ (show (36 : Nat) ≠ 35 by decide), z_pMF _ _ (show (37 : Nat) ≠ 35 by decide), z_PLF _ (show (36 : Nat) ≠ 35 by decide), z_PLF _ (show (37 : Nat) ≠ 35 by decide)]; done) | rfl))) rfl ⟨_, _, rfl⟩ rfl rfl (Nat.le_of_ble_eq_true rfl) (by omega) (n := 90) rfl ?_
            show PW zm_X9_callsAs d 90 [(0, .ref 54), (1, .int kd), (2, .int x)] [.int (z_V0 (I 54 36) (I 54 37) x)] SH ((z_PL (z_pM I 10) (z_T0 (I 54 36))), L, z_R b) 0 0 _
            have hP90 : z_rn (n + 1 + 2) ((z_PL (z_pM I 10) (z_T0 (I 54 36)))) := z_rnL hP81 _ _ (z_L0 _) (by omega)
            refine p_iconst (z_dec zd_X9_callsAs 55 rfl) (v := 2) (by decide) (n := 91) rfl ?_
            refine p_imul (z_dec zd_X9_callsAs 56 rfl) (n := 92) rfl ?_
            exact p_iret (z_dec zd_X9_callsAs 57 rfl) rfl ⟨(z_si (by symm; unfold z_V1; rw [if_neg h2, if_neg h7, if_neg h27, if_neg h47])), rfl, (z_3 (by symm; unfold z_T1; rw [if_neg h2, if_neg h7, if_neg h27, if_neg h47]; simp only [z_PL, List.foldl_cons, List.foldl_nil, List.foldl_append]) rfl)⟩
          · refine p_aload_n (z_dec zd_X9_callsAs 31 rfl) rfl 0 rfl (n := 51) rfl ?_
            refine p_bipush (z_dec zd_X9_callsAs 32 rfl) (v := 80) (by decide) (n := 53) rfl ?_
            refine q_callV (As := [.int 80]) (rest := []) (z_dec zd_X9_callsAs 33 rfl) zk_X9_300 zv_X9_runs (c_X9_runs (d - 1) (by omega) b I L (I 54 35).toNatClampNeg hr.1 (Nat.lt_of_le_of_lt hr.2 (by omega)) 80) rfl ⟨_, _, rfl⟩ rfl rfl (Nat.le_of_ble_eq_true rfl) (by omega) (n := 56) rfl ?_
            show PW zm_X9_callsAs d 56 [(0, .ref 54), (1, .int kd), (2, .int x)] [] SH ((z_pM I 80), L, z_R b) 0 0 _
            have hP56 : z_rn (n + 1) ((z_pM I 80)) := z_rnP hr (by omega) _
            refine p_aload_n (z_dec zd_X9_callsAs 34 rfl) rfl 0 rfl (n := 57) rfl ?_
            refine p_iconst (z_dec zd_X9_callsAs 35 rfl) (v := 4) (by decide) (n := 58) rfl ?_
            refine p_iload_n (z_dec zd_X9_callsAs 36 rfl) rfl 2 rfl (n := 59) rfl ?_
            refine q_callV (As := [.int 4, .int x]) (rest := []) (z_dec zd_X9_callsAs 37 rfl) zk_X9_309 zv_X9_callsAs ((z_actC (v' := z_V0 (I 54 36) (I 54 37) x * 2) (I2 := (z_PL (z_pM I 80) (10 :: z_T0 (I 54 36)))) (c_X9_callsAsA4 (d - 1) (by omega) b (z_pM I 80) L (n + 1) hP56 (by omega) x) (by first | (simp only [z_pMF _ _ (show (36 : Nat) ≠ 35 by decide), z_pMF _ _ (show (37 : Nat) ≠ 35 by decide), z_PLF _ (show (36 : Nat) ≠ 35 by decide), z_PLF _ (show (37 : Nat) ≠ 35 by decide)]; done) | rfl) (by first | (simp only [z_pMF _ _ (show (36 : Nat) ≠ 35 by decide), z_pMF _ _ (show (37 : Nat) ≠ 35 by decide), z_PLF _ (show (36 : Nat) ≠ 35 by decide), z_PLF _ (show (37 : Nat) ≠ 35 by decide)]; done) | rfl))) rfl ⟨_, _, rfl⟩ rfl rfl (Nat.le_of_ble_eq_true rfl) (by omega) (n := 62) rfl ?_
            show PW zm_X9_callsAs d 62 [(0, .ref 54), (1, .int kd), (2, .int x)] [.int (z_V0 (I 54 36) (I 54 37) x * 2)] SH ((z_PL (z_pM I 80) (10 :: z_T0 (I 54 36))), L, z_R b) 0 0 _
            have hP62 : z_rn (n + 1 + 3) ((z_PL (z_pM I 80) (10 :: z_T0 (I 54 36)))) := z_rnL hP56 _ _ (Nat.succ_le_succ (z_L0 _)) (by omega)
            refine p_istore_n (z_dec zd_X9_callsAs 38 rfl) rfl (lv2 := [(3, .int (z_V0 (I 54 36) (I 54 37) x * 2)), (0, .ref 54), (1, .int kd), (2, .int x)]) (by decide) rfl (n := 63) rfl ?_
            refine p_iload_n (z_dec zd_X9_callsAs 39 rfl) rfl 0 rfl (n := 64) rfl ?_
            refine p_aload_n (z_dec zd_X9_callsAs 40 rfl) rfl 1 rfl (n := 65) rfl ?_
            refine p_aload_n (z_dec zd_X9_callsAs 41 rfl) rfl 1 rfl (n := 66) rfl ?_
            refine q_getI (z_dec zd_X9_callsAs 42 rfl) zf_X9_312 (by decide) rfl (v := (I 54 36)) ((z_PLF _ (by decide) _).trans (z_pMF _ _ (by decide))) (n := 69) rfl ?_
            refine p_iconst (z_dec zd_X9_callsAs 43 rfl) (v := 2) (by decide) (n := 70) rfl ?_
            refine q_callV (As := [.int (I 54 36), .int 2]) (rest := [.int (z_V0 (I 54 36) (I 54 37) x * 2)]) (z_dec zd_X9_callsAs 44 rfl) zk_X9_315 zv_X9_losesAs ((z_actC (v' := z_V2 (I 54 36) (I 54 36) (I 54 37) 2) (I2 := (z_PL (z_PL (z_pM I 80) (10 :: z_T0 (I 54 36))) (z_T2 (I 54 36) (I 54 36)))) (c_X9_losesAsA (d - 1) (by omega) b (z_PL (z_pM I 80) (10 :: z_T0 (I 54 36))) L (n + 1 + 3) hP62 (by omega) (I 54 36) 2) (by first | (simp only [z_pMF _ _ (show (36 : Nat) ≠ 35 by decide), z_pMF _ _ (show (37 : Nat) ≠ 35 by decide), z_PLF _ (show (36 : Nat) ≠ 35 by decide), z_PLF _ (show (37 : Nat) ≠ 35 by decide)]; done) | rfl) (by first | (simp only [z_pMF _ _ (show (36 : Nat) ≠ 35 by decide), z_pMF _ _ (show (37 : Nat) ≠ 35 by decide), z_PLF _ (show (36 : Nat) ≠ 35 by decide), z_PLF _ (show (37 : Nat) ≠ 35 by decide)]; done) | rfl))) rfl ⟨_, _, rfl⟩ rfl rfl (Nat.le_of_ble_eq_true rfl) (by omega) (n := 73) rfl ?_
            show PW zm_X9_callsAs d 73 [(3, .int (z_V0 (I 54 36) (I 54 37) x * 2)), (0, .ref 54), (1, .int kd), (2, .int x)] [.int (z_V2 (I 54 36) (I 54 36) (I 54 37) 2), .int (z_V0 (I 54 36) (I 54 37) x * 2)] SH ((z_PL (z_PL (z_pM I 80) (10 :: z_T0 (I 54 36))) (z_T2 (I 54 36) (I 54 36))), L, z_R b) 0 0 _
            have hP73 : z_rn (n + 1 + 3 + 4) ((z_PL (z_PL (z_pM I 80) (10 :: z_T0 (I 54 36))) (z_T2 (I 54 36) (I 54 36)))) := z_rnL hP62 _ _ (z_L2 _ _) (by omega)
            refine p_iadd (z_dec zd_X9_callsAs 45 rfl) (n := 74) rfl ?_
            exact p_iret (z_dec zd_X9_callsAs 46 rfl) rfl ⟨(z_si (by symm; unfold z_V1; rw [if_neg h2, if_neg h7, if_neg h27, if_pos h47])), rfl, (z_3 (by symm; unfold z_T1; rw [if_neg h2, if_neg h7, if_neg h27, if_pos h47]; simp only [z_PL, List.foldl_cons, List.foldl_nil, List.foldl_append]) rfl)⟩
        · refine p_aload_n (z_dec zd_X9_callsAs 19 rfl) rfl 0 rfl (n := 31) rfl ?_
          refine p_bipush (z_dec zd_X9_callsAs 20 rfl) (v := 30) (by decide) (n := 33) rfl ?_
          refine q_callV (As := [.int 30]) (rest := []) (z_dec zd_X9_callsAs 21 rfl) zk_X9_300 zv_X9_runs (c_X9_runs (d - 1) (by omega) b I L (I 54 35).toNatClampNeg hr.1 (Nat.lt_of_le_of_lt hr.2 (by omega)) 30) rfl ⟨_, _, rfl⟩ rfl rfl (Nat.le_of_ble_eq_true rfl) (by omega) (n := 36) rfl ?_
          show PW zm_X9_callsAs d 36 [(0, .ref 54), (1, .int kd), (2, .int x)] [] SH ((z_pM I 30), L, z_R b) 0 0 _
          have hP36 : z_rn (n + 1) ((z_pM I 30)) := z_rnP hr (by omega) _
          refine p_aload_n (z_dec zd_X9_callsAs 22 rfl) rfl 0 rfl (n := 37) rfl ?_
          refine p_iconst (z_dec zd_X9_callsAs 23 rfl) (v := 0) (by decide) (n := 38) rfl ?_
          refine p_iload_n (z_dec zd_X9_callsAs 24 rfl) rfl 2 rfl (n := 39) rfl ?_
          refine q_callV (As := [.int 0, .int x]) (rest := []) (z_dec zd_X9_callsAs 25 rfl) zk_X9_309 zv_X9_callsAs ((z_actC (v' := z_V0 (I 54 36) (I 54 37) x * 2) (I2 := (z_PL (z_pM I 30) (10 :: z_T0 (I 54 36)))) (c_X9_callsAsA0 (d - 1) (by omega) b (z_pM I 30) L (n + 1) hP36 (by omega) x) (by first | (simp only [z_pMF _ _ (show (36 : Nat) ≠ 35 by decide), z_pMF _ _ (show (37 : Nat) ≠ 35 by decide), z_PLF _ (show (36 : Nat) ≠ 35 by decide), z_PLF _ (show (37 : Nat) ≠ 35 by decide)]; done) | rfl) (by first | (simp only [z_pMF _ _ (show (36 : Nat) ≠ 35 by decide), z_pMF _ _ (show (37 : Nat) ≠ 35 by decide), z_PLF _ (show (36 : Nat) ≠ 35 by decide), z_PLF _ (show (37 : Nat) ≠ 35 by decide)]; done) | rfl))) rfl ⟨_, _, rfl⟩ rfl rfl (Nat.le_of_ble_eq_true rfl) (by omega) (n := 42) rfl ?_
          show PW zm_X9_callsAs d 42 [(0, .ref 54), (1, .int kd), (2, .int x)] [.int (z_V0 (I 54 36) (I 54 37) x * 2)] SH ((z_PL (z_pM I 30) (10 :: z_T0 (I 54 36))), L, z_R b) 0 0 _
          have hP42 : z_rn (n + 1 + 3) ((z_PL (z_pM I 30) (10 :: z_T0 (I 54 36)))) := z_rnL hP36 _ _ (Nat.succ_le_succ (z_L0 _)) (by omega)
          refine p_ineg (z_dec zd_X9_callsAs 26 rfl) (n := 43) rfl ?_
          exact p_iret (z_dec zd_X9_callsAs 27 rfl) rfl ⟨(z_si (by symm; unfold z_V1; rw [if_neg h2, if_neg h7, if_pos h27])), rfl, (z_3 (by symm; unfold z_T1; rw [if_neg h2, if_neg h7, if_pos h27]; simp only [z_PL, List.foldl_cons, List.foldl_nil, List.foldl_append]) rfl)⟩
      · refine p_aload_n (z_dec zd_X9_callsAs 6 rfl) rfl 0 rfl (n := 11) rfl ?_
        refine p_bipush (z_dec zd_X9_callsAs 7 rfl) (v := 41) (by decide) (n := 13) rfl ?_
        refine q_callV (As := [.int 41]) (rest := []) (z_dec zd_X9_callsAs 8 rfl) zk_X9_300 zv_X9_runs (c_X9_runs (d - 1) (by omega) b I L (I 54 35).toNatClampNeg hr.1 (Nat.lt_of_le_of_lt hr.2 (by omega)) 41) rfl ⟨_, _, rfl⟩ rfl rfl (Nat.le_of_ble_eq_true rfl) (by omega) (n := 16) rfl ?_
        show PW zm_X9_callsAs d 16 [(0, .ref 54), (1, .int kd), (2, .int x)] [] SH ((z_pM I 41), L, z_R b) 0 0 _
        have hP16 : z_rn (n + 1) ((z_pM I 41)) := z_rnP hr (by omega) _
        refine p_aload_n (z_dec zd_X9_callsAs 9 rfl) rfl 0 rfl (n := 17) rfl ?_
        refine p_iconst (z_dec zd_X9_callsAs 10 rfl) (v := 2) (by decide) (n := 18) rfl ?_
        refine p_iload_n (z_dec zd_X9_callsAs 11 rfl) rfl 2 rfl (n := 19) rfl ?_
        refine p_iconst (z_dec zd_X9_callsAs 12 rfl) (v := 1) (by decide) (n := 20) rfl ?_
        refine p_iadd (z_dec zd_X9_callsAs 13 rfl) (n := 21) rfl ?_
        refine q_callV (As := [.int 2, .int (x + 1)]) (rest := []) (z_dec zd_X9_callsAs 14 rfl) zk_X9_309 zv_X9_callsAs ((z_actC (v' := -(z_V0 (I 54 36) (I 54 37) (x + 1) * 2)) (I2 := (z_PL (z_pM I 41) (30 :: 10 :: z_T0 (I 54 36)))) (c_X9_callsAsA2 (d - 1) (by omega) b (z_pM I 41) L (n + 1) hP16 (by omega) (x + 1)) (by first | (simp only [z_pMF _ _ (show (36 : Nat) ≠ 35 by decide), z_pMF _ _ (show (37 : Nat) ≠ 35 by decide), z_PLF _ (show (36 : Nat) ≠ 35 by decide), z_PLF _ (show (37 : Nat) ≠ 35 by decide)]; done) | rfl) (by first | (simp only [z_pMF _ _ (show (36 : Nat) ≠ 35 by decide), z_pMF _ _ (show (37 : Nat) ≠ 35 by decide), z_PLF _ (show (36 : Nat) ≠ 35 by decide), z_PLF _ (show (37 : Nat) ≠ 35 by decide)]; done) | rfl))) rfl ⟨_, _, rfl⟩ rfl rfl (Nat.le_of_ble_eq_true rfl) (by omega) (n := 24) rfl ?_
        show PW zm_X9_callsAs d 24 [(0, .ref 54), (1, .int kd), (2, .int x)] [.int (-(z_V0 (I 54 36) (I 54 37) (x + 1) * 2))] SH ((z_PL (z_pM I 41) (30 :: 10 :: z_T0 (I 54 36))), L, z_R b) 0 0 _
        have hP24 : z_rn (n + 1 + 4) ((z_PL (z_pM I 41) (30 :: 10 :: z_T0 (I 54 36)))) := z_rnL hP16 _ _ (Nat.succ_le_succ (Nat.succ_le_succ (z_L0 _))) (by omega)
        exact p_iret (z_dec zd_X9_callsAs 15 rfl) rfl ⟨(z_si (by symm; unfold z_V1; rw [if_neg h2, if_pos h7])), rfl, (z_3 (by symm; unfold z_T1; rw [if_neg h2, if_pos h7]; simp only [z_PL, List.foldl_cons, List.foldl_nil, List.foldl_append]) rfl)⟩
  exact hentry
set_option maxHeartbeats 1000000 in
set_option maxRecDepth 100000 in
theorem c_X9_tellsAsA3 (d : Nat) (hd : 9 ≤ d) (b : Bool) (I : Nat → Nat → Int32) (L : Nat → Nat → Int64) (n : Nat) (hr : z_rn n I) (hn : n ≤ 830) (x : Int32) : z_CT zm_X9_tellsAs d [.ref 54, .int 3, .int x] SH (I, L, z_R b) 0 0 (z_ret (some (.int (z_V1 (I 54 36) (I 54 36) (I 54 37) x - z_V2 (I 54 36) (I 54 36) (I 54 37) 1))) ((z_PL I (2 :: (z_T1 (I 54 36) (I 54 36) ++ z_T2 (I 54 36) (I 54 36)))), L, z_R b)) := by
  refine z_enter (by decide +kernel) (Nat.le_of_ble_eq_true rfl) ?_
  have hentry : PW zm_X9_tellsAs d 0 [(0, .ref 54), (1, .int 3), (2, .int x)] [] SH (I, L, z_R b) 0 0 (z_ret (some (.int (z_V1 (I 54 36) (I 54 36) (I 54 37) x - z_V2 (I 54 36) (I 54 36) (I 54 37) 1))) ((z_PL I (2 :: (z_T1 (I 54 36) (I 54 36) ++ z_T2 (I 54 36) (I 54 36)))), L, z_R b)) := by
    refine p_iload_n (z_dec zd_X9_tellsAs 0 rfl) rfl 1 rfl (n := 1) rfl ?_
    refine p_iconst (z_dec zd_X9_tellsAs 1 rfl) (v := 5) (by decide) (n := 2) rfl ?_
    refine p_icmp_ne (z_dec zd_X9_tellsAs 2 rfl) (t := 20) (by decide) (n := 5) rfl (fun h2 => ?_) (fun h2 => ?_)
    · refine p_iload_n (z_dec zd_X9_tellsAs 13 rfl) rfl 1 rfl (n := 21) rfl ?_
      refine p_bipush (z_dec zd_X9_tellsAs 14 rfl) (v := 7) (by decide) (n := 23) rfl ?_
      refine p_icmp_ne (z_dec zd_X9_tellsAs 15 rfl) (t := 41) (by decide) (n := 26) rfl (fun h23 => ?_) (fun h23 => ?_)
      · refine p_aload_n (z_dec zd_X9_tellsAs 26 rfl) rfl 0 rfl (n := 42) rfl ?_
        refine p_iconst (z_dec zd_X9_tellsAs 27 rfl) (v := 2) (by decide) (n := 43) rfl ?_
        refine q_callV (As := [.int 2]) (rest := []) (z_dec zd_X9_tellsAs 28 rfl) zk_X9_300 zv_X9_runs (c_X9_runs (d - 1) (by omega) b I L (I 54 35).toNatClampNeg hr.1 (Nat.lt_of_le_of_lt hr.2 (by omega)) 2) rfl ⟨_, _, rfl⟩ rfl rfl (Nat.le_of_ble_eq_true rfl) (by omega) (n := 46) rfl ?_
        show PW zm_X9_tellsAs d 46 [(0, .ref 54), (1, .int 3), (2, .int x)] [] SH ((z_pM I 2), L, z_R b) 0 0 _
        have hP46 : z_rn (n + 1) ((z_pM I 2)) := z_rnP hr (by omega) _
        refine p_aload_n (z_dec zd_X9_tellsAs 29 rfl) rfl 0 rfl (n := 47) rfl ?_
        refine p_aload_n (z_dec zd_X9_tellsAs 30 rfl) rfl 0 rfl (n := 48) rfl ?_
        refine q_getI (z_dec zd_X9_tellsAs 31 rfl) zf_X9_312 (by decide) rfl (v := (I 54 36)) (z_pMF _ _ (by decide)) (n := 51) rfl ?_
        refine p_iload_n (z_dec zd_X9_tellsAs 32 rfl) rfl 2 rfl (n := 52) rfl ?_
        refine q_callV (As := [.int (I 54 36), .int x]) (rest := []) (z_dec zd_X9_tellsAs 33 rfl) zk_X9_309 zv_X9_callsAs ((z_actC (v' := z_V1 (I 54 36) (I 54 36) (I 54 37) x) (I2 := (z_PL (z_pM I 2) (z_T1 (I 54 36) (I 54 36)))) (c_X9_callsAsA (d - 1) (by omega) b (z_pM I 2) L (n + 1) hP46 (by omega) (I 54 36) x) (by first | (simp only [z_pMF _ _ (show (36 : Nat) ≠ 35 by decide), z_pMF _ _ (show (37 : Nat) ≠ 35 by decide), z_PLF _ (show (36 : Nat) ≠ 35 by decide), z_PLF _ (show (37 : Nat) ≠ 35 by decide)]; done) | rfl) (by first | (simp only [z_pMF _ _ (show (36 : Nat) ≠ 35 by decide), z_pMF _ _ (show (37 : Nat) ≠ 35 by decide), z_PLF _ (show (36 : Nat) ≠ 35 by decide), z_PLF _ (show (37 : Nat) ≠ 35 by decide)]; done) | rfl))) rfl ⟨_, _, rfl⟩ rfl rfl (Nat.le_of_ble_eq_true rfl) (by omega) (n := 55) rfl ?_
        show PW zm_X9_tellsAs d 55 [(0, .ref 54), (1, .int 3), (2, .int x)] [.int (z_V1 (I 54 36) (I 54 36) (I 54 37) x)] SH ((z_PL (z_pM I 2) (z_T1 (I 54 36) (I 54 36))), L, z_R b) 0 0 _
        have hP55 : z_rn (n + 1 + 8) ((z_PL (z_pM I 2) (z_T1 (I 54 36) (I 54 36)))) := z_rnL hP46 _ _ (z_L1 _ _) (by omega)
        refine p_istore_n (z_dec zd_X9_tellsAs 34 rfl) rfl (lv2 := [(3, .int (z_V1 (I 54 36) (I 54 36) (I 54 37) x)), (0, .ref 54), (1, .int 3), (2, .int x)]) (by decide) rfl (n := 56) rfl ?_
        refine p_iload_n (z_dec zd_X9_tellsAs 35 rfl) rfl 0 rfl (n := 57) rfl ?_
        refine p_aload_n (z_dec zd_X9_tellsAs 36 rfl) rfl 1 rfl (n := 58) rfl ?_
        refine p_aload_n (z_dec zd_X9_tellsAs 37 rfl) rfl 1 rfl (n := 59) rfl ?_
        refine q_getI (z_dec zd_X9_tellsAs 38 rfl) zf_X9_312 (by decide) rfl (v := (I 54 36)) ((z_PLF _ (by decide) _).trans (z_pMF _ _ (by decide))) (n := 62) rfl ?_
        refine p_iconst (z_dec zd_X9_tellsAs 39 rfl) (v := 1) (by decide) (n := 63) rfl ?_
        refine q_callV (As := [.int (I 54 36), .int 1]) (rest := [.int (z_V1 (I 54 36) (I 54 36) (I 54 37) x)]) (z_dec zd_X9_tellsAs 40 rfl) zk_X9_315 zv_X9_losesAs ((z_actC (v' := z_V2 (I 54 36) (I 54 36) (I 54 37) 1) (I2 := (z_PL (z_PL (z_pM I 2) (z_T1 (I 54 36) (I 54 36))) (z_T2 (I 54 36) (I 54 36)))) (c_X9_losesAsA (d - 1) (by omega) b (z_PL (z_pM I 2) (z_T1 (I 54 36) (I 54 36))) L (n + 1 + 8) hP55 (by omega) (I 54 36) 1) (by first | (simp only [z_pMF _ _ (show (36 : Nat) ≠ 35 by decide), z_pMF _ _ (show (37 : Nat) ≠ 35 by decide), z_PLF _ (show (36 : Nat) ≠ 35 by decide), z_PLF _ (show (37 : Nat) ≠ 35 by decide)]; done) | rfl) (by first | (simp only [z_pMF _ _ (show (36 : Nat) ≠ 35 by decide), z_pMF _ _ (show (37 : Nat) ≠ 35 by decide), z_PLF _ (show (36 : Nat) ≠ 35 by decide), z_PLF _ (show (37 : Nat) ≠ 35 by decide)]; done) | rfl))) rfl ⟨_, _, rfl⟩ rfl rfl (Nat.le_of_ble_eq_true rfl) (by omega) (n := 66) rfl ?_
        show PW zm_X9_tellsAs d 66 [(3, .int (z_V1 (I 54 36) (I 54 36) (I 54 37) x)), (0, .ref 54), (1, .int 3), (2, .int x)] [.int (z_V2 (I 54 36) (I 54 36) (I 54 37) 1), .int (z_V1 (I 54 36) (I 54 36) (I 54 37) x)] SH ((z_PL (z_PL (z_pM I 2) (z_T1 (I 54 36) (I 54 36))) (z_T2 (I 54 36) (I 54 36))), L, z_R b) 0 0 _
        have hP66 : z_rn (n + 1 + 8 + 4) ((z_PL (z_PL (z_pM I 2) (z_T1 (I 54 36) (I 54 36))) (z_T2 (I 54 36) (I 54 36)))) := z_rnL hP55 _ _ (z_L2 _ _) (by omega)
        refine p_isub (z_dec zd_X9_tellsAs 41 rfl) (n := 67) rfl ?_
        exact p_iret (z_dec zd_X9_tellsAs 42 rfl) rfl ⟨(z_si (by rfl)), rfl, (z_3 (by simp only [z_PL, List.foldl_cons, List.foldl_nil, List.foldl_append]) rfl)⟩
      · exact absurd h23 (by decide)
    · exact absurd h2 (by decide)
  exact hentry
set_option maxHeartbeats 1000000 in
set_option maxRecDepth 100000 in
theorem c_X9_tellsAsA4 (d : Nat) (hd : 9 ≤ d) (b : Bool) (I : Nat → Nat → Int32) (L : Nat → Nat → Int64) (n : Nat) (hr : z_rn n I) (hn : n ≤ 830) (x : Int32) : z_CT zm_X9_tellsAs d [.ref 54, .int 4, .int x] SH (I, L, z_R b) 0 0 (z_ret (some (.int (z_V1 (I 54 36) (I 54 36) (I 54 37) x - z_V2 (I 54 36) (I 54 36) (I 54 37) 1))) ((z_PL I (2 :: (z_T1 (I 54 36) (I 54 36) ++ z_T2 (I 54 36) (I 54 36)))), L, z_R b)) := by
  refine z_enter (by decide +kernel) (Nat.le_of_ble_eq_true rfl) ?_
  have hentry : PW zm_X9_tellsAs d 0 [(0, .ref 54), (1, .int 4), (2, .int x)] [] SH (I, L, z_R b) 0 0 (z_ret (some (.int (z_V1 (I 54 36) (I 54 36) (I 54 37) x - z_V2 (I 54 36) (I 54 36) (I 54 37) 1))) ((z_PL I (2 :: (z_T1 (I 54 36) (I 54 36) ++ z_T2 (I 54 36) (I 54 36)))), L, z_R b)) := by
    refine p_iload_n (z_dec zd_X9_tellsAs 0 rfl) rfl 1 rfl (n := 1) rfl ?_
    refine p_iconst (z_dec zd_X9_tellsAs 1 rfl) (v := 5) (by decide) (n := 2) rfl ?_
    refine p_icmp_ne (z_dec zd_X9_tellsAs 2 rfl) (t := 20) (by decide) (n := 5) rfl (fun h2 => ?_) (fun h2 => ?_)
    · refine p_iload_n (z_dec zd_X9_tellsAs 13 rfl) rfl 1 rfl (n := 21) rfl ?_
      refine p_bipush (z_dec zd_X9_tellsAs 14 rfl) (v := 7) (by decide) (n := 23) rfl ?_
      refine p_icmp_ne (z_dec zd_X9_tellsAs 15 rfl) (t := 41) (by decide) (n := 26) rfl (fun h23 => ?_) (fun h23 => ?_)
      · refine p_aload_n (z_dec zd_X9_tellsAs 26 rfl) rfl 0 rfl (n := 42) rfl ?_
        refine p_iconst (z_dec zd_X9_tellsAs 27 rfl) (v := 2) (by decide) (n := 43) rfl ?_
        refine q_callV (As := [.int 2]) (rest := []) (z_dec zd_X9_tellsAs 28 rfl) zk_X9_300 zv_X9_runs (c_X9_runs (d - 1) (by omega) b I L (I 54 35).toNatClampNeg hr.1 (Nat.lt_of_le_of_lt hr.2 (by omega)) 2) rfl ⟨_, _, rfl⟩ rfl rfl (Nat.le_of_ble_eq_true rfl) (by omega) (n := 46) rfl ?_
        show PW zm_X9_tellsAs d 46 [(0, .ref 54), (1, .int 4), (2, .int x)] [] SH ((z_pM I 2), L, z_R b) 0 0 _
        have hP46 : z_rn (n + 1) ((z_pM I 2)) := z_rnP hr (by omega) _
        refine p_aload_n (z_dec zd_X9_tellsAs 29 rfl) rfl 0 rfl (n := 47) rfl ?_
        refine p_aload_n (z_dec zd_X9_tellsAs 30 rfl) rfl 0 rfl (n := 48) rfl ?_
        refine q_getI (z_dec zd_X9_tellsAs 31 rfl) zf_X9_312 (by decide) rfl (v := (I 54 36)) (z_pMF _ _ (by decide)) (n := 51) rfl ?_
        refine p_iload_n (z_dec zd_X9_tellsAs 32 rfl) rfl 2 rfl (n := 52) rfl ?_
        refine q_callV (As := [.int (I 54 36), .int x]) (rest := []) (z_dec zd_X9_tellsAs 33 rfl) zk_X9_309 zv_X9_callsAs ((z_actC (v' := z_V1 (I 54 36) (I 54 36) (I 54 37) x) (I2 := (z_PL (z_pM I 2) (z_T1 (I 54 36) (I 54 36)))) (c_X9_callsAsA (d - 1) (by omega) b (z_pM I 2) L (n + 1) hP46 (by omega) (I 54 36) x) (by first | (simp only [z_pMF _ _ (show (36 : Nat) ≠ 35 by decide), z_pMF _ _ (show (37 : Nat) ≠ 35 by decide), z_PLF _ (show (36 : Nat) ≠ 35 by decide), z_PLF _ (show (37 : Nat) ≠ 35 by decide)]; done) | rfl) (by first | (simp only [z_pMF _ _ (show (36 : Nat) ≠ 35 by decide), z_pMF _ _ (show (37 : Nat) ≠ 35 by decide), z_PLF _ (show (36 : Nat) ≠ 35 by decide), z_PLF _ (show (37 : Nat) ≠ 35 by decide)]; done) | rfl))) rfl ⟨_, _, rfl⟩ rfl rfl (Nat.le_of_ble_eq_true rfl) (by omega) (n := 55) rfl ?_
        show PW zm_X9_tellsAs d 55 [(0, .ref 54), (1, .int 4), (2, .int x)] [.int (z_V1 (I 54 36) (I 54 36) (I 54 37) x)] SH ((z_PL (z_pM I 2) (z_T1 (I 54 36) (I 54 36))), L, z_R b) 0 0 _
        have hP55 : z_rn (n + 1 + 8) ((z_PL (z_pM I 2) (z_T1 (I 54 36) (I 54 36)))) := z_rnL hP46 _ _ (z_L1 _ _) (by omega)
        refine p_istore_n (z_dec zd_X9_tellsAs 34 rfl) rfl (lv2 := [(3, .int (z_V1 (I 54 36) (I 54 36) (I 54 37) x)), (0, .ref 54), (1, .int 4), (2, .int x)]) (by decide) rfl (n := 56) rfl ?_
        refine p_iload_n (z_dec zd_X9_tellsAs 35 rfl) rfl 0 rfl (n := 57) rfl ?_
        refine p_aload_n (z_dec zd_X9_tellsAs 36 rfl) rfl 1 rfl (n := 58) rfl ?_
        refine p_aload_n (z_dec zd_X9_tellsAs 37 rfl) rfl 1 rfl (n := 59) rfl ?_
        refine q_getI (z_dec zd_X9_tellsAs 38 rfl) zf_X9_312 (by decide) rfl (v := (I 54 36)) ((z_PLF _ (by decide) _).trans (z_pMF _ _ (by decide))) (n := 62) rfl ?_
        refine p_iconst (z_dec zd_X9_tellsAs 39 rfl) (v := 1) (by decide) (n := 63) rfl ?_
        refine q_callV (As := [.int (I 54 36), .int 1]) (rest := [.int (z_V1 (I 54 36) (I 54 36) (I 54 37) x)]) (z_dec zd_X9_tellsAs 40 rfl) zk_X9_315 zv_X9_losesAs ((z_actC (v' := z_V2 (I 54 36) (I 54 36) (I 54 37) 1) (I2 := (z_PL (z_PL (z_pM I 2) (z_T1 (I 54 36) (I 54 36))) (z_T2 (I 54 36) (I 54 36)))) (c_X9_losesAsA (d - 1) (by omega) b (z_PL (z_pM I 2) (z_T1 (I 54 36) (I 54 36))) L (n + 1 + 8) hP55 (by omega) (I 54 36) 1) (by first | (simp only [z_pMF _ _ (show (36 : Nat) ≠ 35 by decide), z_pMF _ _ (show (37 : Nat) ≠ 35 by decide), z_PLF _ (show (36 : Nat) ≠ 35 by decide), z_PLF _ (show (37 : Nat) ≠ 35 by decide)]; done) | rfl) (by first | (simp only [z_pMF _ _ (show (36 : Nat) ≠ 35 by decide), z_pMF _ _ (show (37 : Nat) ≠ 35 by decide), z_PLF _ (show (36 : Nat) ≠ 35 by decide), z_PLF _ (show (37 : Nat) ≠ 35 by decide)]; done) | rfl))) rfl ⟨_, _, rfl⟩ rfl rfl (Nat.le_of_ble_eq_true rfl) (by omega) (n := 66) rfl ?_
        show PW zm_X9_tellsAs d 66 [(3, .int (z_V1 (I 54 36) (I 54 36) (I 54 37) x)), (0, .ref 54), (1, .int 4), (2, .int x)] [.int (z_V2 (I 54 36) (I 54 36) (I 54 37) 1), .int (z_V1 (I 54 36) (I 54 36) (I 54 37) x)] SH ((z_PL (z_PL (z_pM I 2) (z_T1 (I 54 36) (I 54 36))) (z_T2 (I 54 36) (I 54 36))), L, z_R b) 0 0 _
        have hP66 : z_rn (n + 1 + 8 + 4) ((z_PL (z_PL (z_pM I 2) (z_T1 (I 54 36) (I 54 36))) (z_T2 (I 54 36) (I 54 36)))) := z_rnL hP55 _ _ (z_L2 _ _) (by omega)
        refine p_isub (z_dec zd_X9_tellsAs 41 rfl) (n := 67) rfl ?_
        exact p_iret (z_dec zd_X9_tellsAs 42 rfl) rfl ⟨(z_si (by rfl)), rfl, (z_3 (by simp only [z_PL, List.foldl_cons, List.foldl_nil, List.foldl_append]) rfl)⟩
      · exact absurd h23 (by decide)
    · exact absurd h2 (by decide)
  exact hentry
set_option maxHeartbeats 1000000 in
set_option maxRecDepth 100000 in
theorem c_X9_tellsAsA (d : Nat) (hd : 10 ≤ d) (b : Bool) (I : Nat → Nat → Int32) (L : Nat → Nat → Int64) (n : Nat) (hr : z_rn n I) (hn : n ≤ 820) (kd : Int32) (x : Int32) : z_CT zm_X9_tellsAs d [.ref 54, .int kd, .int x] SH (I, L, z_R b) 0 0 (z_ret (some (.int (z_V3 kd (I 54 36) (I 54 37) x))) ((z_PL I (z_T3 kd (I 54 36))), L, z_R b)) := by
  refine z_enter (by decide +kernel) (Nat.le_of_ble_eq_true rfl) ?_
  have hentry : PW zm_X9_tellsAs d 0 [(0, .ref 54), (1, .int kd), (2, .int x)] [] SH (I, L, z_R b) 0 0 (z_ret (some (.int (z_V3 kd (I 54 36) (I 54 37) x))) ((z_PL I (z_T3 kd (I 54 36))), L, z_R b)) := by
    refine p_iload_n (z_dec zd_X9_tellsAs 0 rfl) rfl 1 rfl (n := 1) rfl ?_
    refine p_iconst (z_dec zd_X9_tellsAs 1 rfl) (v := 5) (by decide) (n := 2) rfl ?_
    refine p_icmp_ne (z_dec zd_X9_tellsAs 2 rfl) (t := 20) (by decide) (n := 5) rfl (fun h2 => ?_) (fun h2 => ?_)
    · refine p_iload_n (z_dec zd_X9_tellsAs 13 rfl) rfl 1 rfl (n := 21) rfl ?_
      refine p_bipush (z_dec zd_X9_tellsAs 14 rfl) (v := 7) (by decide) (n := 23) rfl ?_
      refine p_icmp_ne (z_dec zd_X9_tellsAs 15 rfl) (t := 41) (by decide) (n := 26) rfl (fun h23 => ?_) (fun h23 => ?_)
      · refine p_aload_n (z_dec zd_X9_tellsAs 26 rfl) rfl 0 rfl (n := 42) rfl ?_
        refine p_iconst (z_dec zd_X9_tellsAs 27 rfl) (v := 2) (by decide) (n := 43) rfl ?_
        refine q_callV (As := [.int 2]) (rest := []) (z_dec zd_X9_tellsAs 28 rfl) zk_X9_300 zv_X9_runs (c_X9_runs (d - 1) (by omega) b I L (I 54 35).toNatClampNeg hr.1 (Nat.lt_of_le_of_lt hr.2 (by omega)) 2) rfl ⟨_, _, rfl⟩ rfl rfl (Nat.le_of_ble_eq_true rfl) (by omega) (n := 46) rfl ?_
        show PW zm_X9_tellsAs d 46 [(0, .ref 54), (1, .int kd), (2, .int x)] [] SH ((z_pM I 2), L, z_R b) 0 0 _
        have hP46 : z_rn (n + 1) ((z_pM I 2)) := z_rnP hr (by omega) _
        refine p_aload_n (z_dec zd_X9_tellsAs 29 rfl) rfl 0 rfl (n := 47) rfl ?_
        refine p_aload_n (z_dec zd_X9_tellsAs 30 rfl) rfl 0 rfl (n := 48) rfl ?_
        refine q_getI (z_dec zd_X9_tellsAs 31 rfl) zf_X9_312 (by decide) rfl (v := (I 54 36)) (z_pMF _ _ (by decide)) (n := 51) rfl ?_
        refine p_iload_n (z_dec zd_X9_tellsAs 32 rfl) rfl 2 rfl (n := 52) rfl ?_
        refine q_callV (As := [.int (I 54 36), .int x]) (rest := []) (z_dec zd_X9_tellsAs 33 rfl) zk_X9_309 zv_X9_callsAs ((z_actC (v' := z_V1 (I 54 36) (I 54 36) (I 54 37) x) (I2 := (z_PL (z_pM I 2) (z_T1 (I 54 36) (I 54 36)))) (c_X9_callsAsA (d - 1) (by omega) b (z_pM I 2) L (n + 1) hP46 (by omega) (I 54 36) x) (by first | (simp only [z_pMF _ _ (show (36 : Nat) ≠ 35 by decide), z_pMF _ _ (show (37 : Nat) ≠ 35 by decide), z_PLF _ (show (36 : Nat) ≠ 35 by decide), z_PLF _ (show (37 : Nat) ≠ 35 by decide)]; done) | rfl) (by first | (simp only [z_pMF _ _ (show (36 : Nat) ≠ 35 by decide), z_pMF _ _ (show (37 : Nat) ≠ 35 by decide), z_PLF _ (show (36 : Nat) ≠ 35 by decide), z_PLF _ (show (37 : Nat) ≠ 35 by decide)]; done) | rfl))) rfl ⟨_, _, rfl⟩ rfl rfl (Nat.le_of_ble_eq_true rfl) (by omega) (n := 55) rfl ?_
        show PW zm_X9_tellsAs d 55 [(0, .ref 54), (1, .int kd), (2, .int x)] [.int (z_V1 (I 54 36) (I 54 36) (I 54 37) x)] SH ((z_PL (z_pM I 2) (z_T1 (I 54 36) (I 54 36))), L, z_R b) 0 0 _
        have hP55 : z_rn (n + 1 + 8) ((z_PL (z_pM I 2) (z_T1 (I 54 36) (I 54 36)))) := z_rnL hP46 _ _ (z_L1 _ _) (by omega)
        refine p_istore_n (z_dec zd_X9_tellsAs 34 rfl) rfl (lv2 := [(3, .int (z_V1 (I 54 36) (I 54 36) (I 54 37) x)), (0, .ref 54), (1, .int kd), (2, .int x)]) (by decide) rfl (n := 56) rfl ?_
        refine p_iload_n (z_dec zd_X9_tellsAs 35 rfl) rfl 0 rfl (n := 57) rfl ?_
        refine p_aload_n (z_dec zd_X9_tellsAs 36 rfl) rfl 1 rfl (n := 58) rfl ?_
        refine p_aload_n (z_dec zd_X9_tellsAs 37 rfl) rfl 1 rfl (n := 59) rfl ?_
        refine q_getI (z_dec zd_X9_tellsAs 38 rfl) zf_X9_312 (by decide) rfl (v := (I 54 36)) ((z_PLF _ (by decide) _).trans (z_pMF _ _ (by decide))) (n := 62) rfl ?_
        refine p_iconst (z_dec zd_X9_tellsAs 39 rfl) (v := 1) (by decide) (n := 63) rfl ?_
        refine q_callV (As := [.int (I 54 36), .int 1]) (rest := [.int (z_V1 (I 54 36) (I 54 36) (I 54 37) x)]) (z_dec zd_X9_tellsAs 40 rfl) zk_X9_315 zv_X9_losesAs ((z_actC (v' := z_V2 (I 54 36) (I 54 36) (I 54 37) 1) (I2 := (z_PL (z_PL (z_pM I 2) (z_T1 (I 54 36) (I 54 36))) (z_T2 (I 54 36) (I 54 36)))) (c_X9_losesAsA (d - 1) (by omega) b (z_PL (z_pM I 2) (z_T1 (I 54 36) (I 54 36))) L (n + 1 + 8) hP55 (by omega) (I 54 36) 1) (by first | (simp only [z_pMF _ _ (show (36 : Nat) ≠ 35 by decide), z_pMF _ _ (show (37 : Nat) ≠ 35 by decide), z_PLF _ (show (36 : Nat) ≠ 35 by decide), z_PLF _ (show (37 : Nat) ≠ 35 by decide)]; done) | rfl) (by first | (simp only [z_pMF _ _ (show (36 : Nat) ≠ 35 by decide), z_pMF _ _ (show (37 : Nat) ≠ 35 by decide), z_PLF _ (show (36 : Nat) ≠ 35 by decide), z_PLF _ (show (37 : Nat) ≠ 35 by decide)]; done) | rfl))) rfl ⟨_, _, rfl⟩ rfl rfl (Nat.le_of_ble_eq_true rfl) (by omega) (n := 66) rfl ?_
        show PW zm_X9_tellsAs d 66 [(3, .int (z_V1 (I 54 36) (I 54 36) (I 54 37) x)), (0, .ref 54), (1, .int kd), (2, .int x)] [.int (z_V2 (I 54 36) (I 54 36) (I 54 37) 1), .int (z_V1 (I 54 36) (I 54 36) (I 54 37) x)] SH ((z_PL (z_PL (z_pM I 2) (z_T1 (I 54 36) (I 54 36))) (z_T2 (I 54 36) (I 54 36))), L, z_R b) 0 0 _
        have hP66 : z_rn (n + 1 + 8 + 4) ((z_PL (z_PL (z_pM I 2) (z_T1 (I 54 36) (I 54 36))) (z_T2 (I 54 36) (I 54 36)))) := z_rnL hP55 _ _ (z_L2 _ _) (by omega)
        refine p_isub (z_dec zd_X9_tellsAs 41 rfl) (n := 67) rfl ?_
        exact p_iret (z_dec zd_X9_tellsAs 42 rfl) rfl ⟨(z_si (by symm; unfold z_V3; rw [if_neg h2, if_neg h23])), rfl, (z_3 (by symm; unfold z_T3; rw [if_neg h2, if_neg h23]; simp only [z_PL, List.foldl_cons, List.foldl_nil, List.foldl_append]) rfl)⟩
      · refine p_aload_n (z_dec zd_X9_tellsAs 16 rfl) rfl 0 rfl (n := 27) rfl ?_
        refine p_bipush (z_dec zd_X9_tellsAs 17 rfl) (v := 81) (by decide) (n := 29) rfl ?_
        refine q_callV (As := [.int 81]) (rest := []) (z_dec zd_X9_tellsAs 18 rfl) zk_X9_300 zv_X9_runs (c_X9_runs (d - 1) (by omega) b I L (I 54 35).toNatClampNeg hr.1 (Nat.lt_of_le_of_lt hr.2 (by omega)) 81) rfl ⟨_, _, rfl⟩ rfl rfl (Nat.le_of_ble_eq_true rfl) (by omega) (n := 32) rfl ?_
        show PW zm_X9_tellsAs d 32 [(0, .ref 54), (1, .int kd), (2, .int x)] [] SH ((z_pM I 81), L, z_R b) 0 0 _
        have hP32 : z_rn (n + 1) ((z_pM I 81)) := z_rnP hr (by omega) _
        refine p_aload_n (z_dec zd_X9_tellsAs 19 rfl) rfl 0 rfl (n := 33) rfl ?_
        refine p_iconst (z_dec zd_X9_tellsAs 20 rfl) (v := 4) (by decide) (n := 34) rfl ?_
        refine p_iload_n (z_dec zd_X9_tellsAs 21 rfl) rfl 2 rfl (n := 35) rfl ?_
        refine q_callV (As := [.int 4, .int x]) (rest := []) (z_dec zd_X9_tellsAs 22 rfl) zk_X9_318 zv_X9_tellsAs ((z_actC (v' := z_V1 (I 54 36) (I 54 36) (I 54 37) x - z_V2 (I 54 36) (I 54 36) (I 54 37) 1) (I2 := (z_PL (z_pM I 81) (2 :: (z_T1 (I 54 36) (I 54 36) ++ z_T2 (I 54 36) (I 54 36))))) (c_X9_tellsAsA4 (d - 1) (by omega) b (z_pM I 81) L (n + 1) hP32 (by omega) x) (by first | (simp only [z_pMF _ _ (show (36 : Nat) ≠ 35 by decide), z_pMF _ _ (show (37 : Nat) ≠ 35 by decide), z_PLF _ (show (36 : Nat) ≠ 35 by decide), z_PLF _ (show (37 : Nat) ≠ 35 by decide)]; done) | rfl) (by first | (simp only [z_pMF _ _ (show (36 : Nat) ≠ 35 by decide), z_pMF _ _ (show (37 : Nat) ≠ 35 by decide), z_PLF _ (show (36 : Nat) ≠ 35 by decide), z_PLF _ (show (37 : Nat) ≠ 35 by decide)]; done) | rfl))) rfl ⟨_, _, rfl⟩ rfl rfl (Nat.le_of_ble_eq_true rfl) (by omega) (n := 38) rfl ?_
        show PW zm_X9_tellsAs d 38 [(0, .ref 54), (1, .int kd), (2, .int x)] [.int (z_V1 (I 54 36) (I 54 36) (I 54 37) x - z_V2 (I 54 36) (I 54 36) (I 54 37) 1)] SH ((z_PL (z_pM I 81) (2 :: (z_T1 (I 54 36) (I 54 36) ++ z_T2 (I 54 36) (I 54 36)))), L, z_R b) 0 0 _
        have hP38 : z_rn (n + 1 + 13) ((z_PL (z_pM I 81) (2 :: (z_T1 (I 54 36) (I 54 36) ++ z_T2 (I 54 36) (I 54 36))))) := z_rnL hP32 _ _ (by have h1 := z_L1 (I 54 36) (I 54 36); have h2 := z_L2 (I 54 36) (I 54 36); simp only [List.length_cons, List.length_append]; omega) (by omega)
        refine p_iconst (z_dec zd_X9_tellsAs 23 rfl) (v := 1) (by decide) (n := 39) rfl ?_
        refine p_isub (z_dec zd_X9_tellsAs 24 rfl) (n := 40) rfl ?_
        exact p_iret (z_dec zd_X9_tellsAs 25 rfl) rfl ⟨(z_si (by symm; unfold z_V3; rw [if_neg h2, if_pos h23])), rfl, (z_3 (by symm; unfold z_T3; rw [if_neg h2, if_pos h23]; simp only [z_PL, List.foldl_cons, List.foldl_nil, List.foldl_append]) rfl)⟩
    · refine p_aload_n (z_dec zd_X9_tellsAs 3 rfl) rfl 0 rfl (n := 6) rfl ?_
      refine p_bipush (z_dec zd_X9_tellsAs 4 rfl) (v := 60) (by decide) (n := 8) rfl ?_
      refine q_callV (As := [.int 60]) (rest := []) (z_dec zd_X9_tellsAs 5 rfl) zk_X9_300 zv_X9_runs (c_X9_runs (d - 1) (by omega) b I L (I 54 35).toNatClampNeg hr.1 (Nat.lt_of_le_of_lt hr.2 (by omega)) 60) rfl ⟨_, _, rfl⟩ rfl rfl (Nat.le_of_ble_eq_true rfl) (by omega) (n := 11) rfl ?_
      show PW zm_X9_tellsAs d 11 [(0, .ref 54), (1, .int kd), (2, .int x)] [] SH ((z_pM I 60), L, z_R b) 0 0 _
      have hP11 : z_rn (n + 1) ((z_pM I 60)) := z_rnP hr (by omega) _
      refine p_aload_n (z_dec zd_X9_tellsAs 6 rfl) rfl 0 rfl (n := 12) rfl ?_
      refine p_iconst (z_dec zd_X9_tellsAs 7 rfl) (v := 3) (by decide) (n := 13) rfl ?_
      refine p_iload_n (z_dec zd_X9_tellsAs 8 rfl) rfl 2 rfl (n := 14) rfl ?_
      refine q_callV (As := [.int 3, .int x]) (rest := []) (z_dec zd_X9_tellsAs 9 rfl) zk_X9_318 zv_X9_tellsAs ((z_actC (v' := z_V1 (I 54 36) (I 54 36) (I 54 37) x - z_V2 (I 54 36) (I 54 36) (I 54 37) 1) (I2 := (z_PL (z_pM I 60) (2 :: (z_T1 (I 54 36) (I 54 36) ++ z_T2 (I 54 36) (I 54 36))))) (c_X9_tellsAsA3 (d - 1) (by omega) b (z_pM I 60) L (n + 1) hP11 (by omega) x) (by first | (simp only [z_pMF _ _ (show (36 : Nat) ≠ 35 by decide), z_pMF _ _ (show (37 : Nat) ≠ 35 by decide), z_PLF _ (show (36 : Nat) ≠ 35 by decide), z_PLF _ (show (37 : Nat) ≠ 35 by decide)]; done) | rfl) (by first | (simp only [z_pMF _ _ (show (36 : Nat) ≠ 35 by decide), z_pMF _ _ (show (37 : Nat) ≠ 35 by decide), z_PLF _ (show (36 : Nat) ≠ 35 by decide), z_PLF _ (show (37 : Nat) ≠ 35 by decide)]; done) | rfl))) rfl ⟨_, _, rfl⟩ rfl rfl (Nat.le_of_ble_eq_true rfl) (by omega) (n := 17) rfl ?_
      show PW zm_X9_tellsAs d 17 [(0, .ref 54), (1, .int kd), (2, .int x)] [.int (z_V1 (I 54 36) (I 54 36) (I 54 37) x - z_V2 (I 54 36) (I 54 36) (I 54 37) 1)] SH ((z_PL (z_pM I 60) (2 :: (z_T1 (I 54 36) (I 54 36) ++ z_T2 (I 54 36) (I 54 36)))), L, z_R b) 0 0 _
      have hP17 : z_rn (n + 1 + 13) ((z_PL (z_pM I 60) (2 :: (z_T1 (I 54 36) (I 54 36) ++ z_T2 (I 54 36) (I 54 36))))) := z_rnL hP11 _ _ (by have h1 := z_L1 (I 54 36) (I 54 36); have h2 := z_L2 (I 54 36) (I 54 36); simp only [List.length_cons, List.length_append]; omega) (by omega)
      refine p_iconst (z_dec zd_X9_tellsAs 10 rfl) (v := 5) (by decide) (n := 18) rfl ?_
      refine p_ixor (z_dec zd_X9_tellsAs 11 rfl) (n := 19) rfl ?_
      exact p_iret (z_dec zd_X9_tellsAs 12 rfl) rfl ⟨(z_si (by symm; unfold z_V3; rw [if_pos h2])), rfl, (z_3 (by symm; unfold z_T3; rw [if_pos h2]; simp only [z_PL, List.foldl_cons, List.foldl_nil, List.foldl_append]) rfl)⟩
  exact hentry
