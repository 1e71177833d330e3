/-! THE REFERENCE: order, its second loop -/
/-- left without p -/
def yj_bh (left p : Nat) : Nat := (nI left &&& (((1 : Int32) <<< (nI p &&& 31)) ^^^ (-1))).toNatClampNeg
theorem yj_bhE {left p : Nat} (h : left < 2000000000) : nI left &&& (((1 : Int32) <<< (nI p &&& 31)) ^^^ (-1)) = nI (yj_bh left p) ∧ yj_bh left p ≤ left := z_andN h _
theorem yj_bhB {left p : Nat} (h : left < 1024) (hp : p < 10) : yj_bh left p < 1024 ∧ ∀ i, i < 10 → (yj_bh left p).testBit i = (left.testBit i && decide (i ≠ p)) := by
  have w : 2 ^ p < 1024 := Nat.pow_lt_pow_right (n := 10) (by decide) hp
  obtain ⟨Z, z1, z2, z3⟩ := yj_but h w
  have e : yj_bh left p = Z := by
    unfold yj_bh
    rw [z_shl1 p (by omega), z2, nI_clamp (by omega)]
  rw [e]
  refine ⟨z1, fun i hi => ?_⟩
  rw [z3 i hi, Nat.testBit_two_pow]
  by_cases q : p = i
  · subst q; simp
  · have : i ≠ p := fun w => q w.symm
    simp [q, this]
theorem yj_bhN {np left p : Nat} {r : Nat} (h : left < 1024) (hp : p < np) (hb : left.testBit p = true) (hn : np ≤ 10) (hc : yj_cn (fun j => left.testBit j) 10 = r + 1 := by assumption) : yj_bh left p ≤ left ∧ yj_cn (fun j => (yj_bh left p).testBit j) 10 = r := by
  refine ⟨(yj_bhE (by omega)).2, ?_⟩
  have c := yj_cnM (fun j => left.testBit j) p 10
  rw [if_pos ⟨hb, by omega⟩, hc] at c
  rw [yj_cnE (q := yj_mi (fun j => left.testBit j) p) (fun i hi => (yj_bhB h (by omega)).2 i hi)]
  omega
theorem yj_cn0 {left : Nat} (h : left < 1024) (hc : yj_cn (fun j => left.testBit j) 10 = 0) : left = 0 := by
  apply Nat.eq_of_testBit_eq
  intro i
  rw [Nat.zero_testBit]
  by_cases hi : i < 10
  · cases q : left.testBit i
    · rfl
    · exfalso
      have c := yj_cnM (fun j => left.testBit j) i 10
      rw [if_pos ⟨q, hi⟩] at c
      omega
  · exact Nat.testBit_lt_two_pow (Nat.lt_of_lt_of_le h (Nat.pow_le_pow_right (n := 2) (by decide) (show 10 ≤ i by omega)))
theorem yj_cnP {left r : Nat} (hc : yj_cn (fun j => left.testBit j) 10 = r + 1) : 0 < left := by
  rcases Nat.eq_zero_or_pos left with q | q
  · subst q
    have z : ∀ n, yj_cn (fun j => (0 : Nat).testBit j) n = 0 := by
      intro n
      induction n with
      | zero => rfl
      | succ n ih =>
        show yj_cn (fun j => (0 : Nat).testBit j) n + (if (0 : Nat).testBit n = true then 1 else 0) = 0
        rw [ih, Nat.zero_testBit, if_neg (by decide)]
    rw [z] at hc
    exact absurd hc (by omega)
  · exact q
/-- the player asked for, counted down -/
def yj_p8 : Nat → Int32
  | 0 => -1
  | q + 1 => nI q
theorem yj_p8E : ∀ q : Nat, nI q + (-1) = yj_p8 q
  | 0 => rfl
  | q + 1 => pk_m1 q
theorem yj_p8N (np : Nat) : nI np - 1 = yj_p8 np := by
  rw [← yj_p8E, Int32.sub_eq_add_neg]
/-- who attains the fewest, of the lowest number -/
def yj_nxt (np : Nat) (I : Nat → Nat → Int32) (left : Nat) : Nat → Int32 → Int32
  | 0, v => v
  | q + 1, v => if f_X9_isIn (nI left) (nI q) = 0 then yj_nxt np I left q v else if I 68 (yj_bh left q) + f_X9_upsetBy I np q (nI (yj_bh left q)) = I 68 left then yj_nxt np I left q (nI q) else yj_nxt np I left q v
/-- each set has one -/
def yj_oH (np : Nat) (I : Nat → Nat → Int32) : Prop := ∀ left, 0 < left → left < 2 ^ np → ∃ p, p < np ∧ left.testBit p = true ∧ yj_nxt np I left np (-1) = nI p
/-- the order's answer, by rounds left -/
def yj_oA (np : Nat) (I : Nat → Nat → Int32) (k : Int32) : Nat → Nat → Nat → Int32 → Int32
  | 0, i, left, a => a
  | r + 1, i, left, a => if k < nI i then a else if nI i = k then yj_oA np I k r (i + 1) (yj_bh left (yj_nxt np I left np (-1)).toNatClampNeg) (yj_nxt np I left np (-1)) else yj_oA np I k r (i + 1) (yj_bh left (yj_nxt np I left np (-1)).toNatClampNeg) a
set_option maxHeartbeats 1000000 in
set_option maxRecDepth 100000 in
theorem yj_orL (d : Nat) (hd : 57 ≤ d) (b : Bool) (I : Nat → Nat → Int32) (L : Nat → Nat → Int64) (np : Nat) (hN : z_N np I) (hn10 : np ≤ 10) (left : Nat) (hl : left < 1024) (sh k a5 all i6 : Int32) (E : Option Value → z_Sh → z_M → Prop) : ∀ (q : Nat) (v : Int32), q ≤ np → PW zm_X9_order d 269 [(7, .int (yj_nxt np I left q v)), (4, .int (nI left)), (6, .int i6), (5, .int a5), (3, .int all), (0, .ref 54), (1, .int sh), (2, .int k)] [] SH (I, L, z_R b) 0 0 E → PW zm_X9_order d 202 [(8, .int (yj_p8 q)), (7, .int v), (4, .int (nI left)), (6, .int i6), (5, .int a5), (3, .int all), (0, .ref 54), (1, .int sh), (2, .int k)] [] SH (I, L, z_R b) 0 0 E
  | 0, v, hq, hk => by
    show PW zm_X9_order d 202 [(8, .int (-1)), (7, .int v), (4, .int (nI left)), (6, .int i6), (5, .int a5), (3, .int all), (0, .ref 54), (1, .int sh), (2, .int k)] [] SH (I, L, z_R b) 0 0 E
    refine p_iload (z_dec zd_X9_order 114 rfl) 0 rfl (n := 204) rfl ?_
    refine p_if_lt (z_dec zd_X9_order 115 rfl) (t := 269) (by decide) (n := 207) rfl (fun h204 => ?_) (fun h204 => ?_)
    · refine z_sub (lv' := [(7, .int v), (4, .int (nI left)), (6, .int i6), (5, .int a5), (3, .int all), (0, .ref 54), (1, .int sh), (2, .int k)]) [1, 2, 3, 4, 5, 6, 7, 8] rfl ?_
      exact hk
    · exact absurd h204 (by decide)
  | q + 1, v, hq, hk => by
    show PW zm_X9_order d 202 [(8, .int (nI q)), (7, .int v), (4, .int (nI left)), (6, .int i6), (5, .int a5), (3, .int all), (0, .ref 54), (1, .int sh), (2, .int k)] [] SH (I, L, z_R b) 0 0 E
    refine p_iload (z_dec zd_X9_order 114 rfl) 0 rfl (n := 204) rfl ?_
    refine p_if_lt (z_dec zd_X9_order 115 rfl) (t := 269) (by decide) (n := 207) rfl (fun h204 => ?_) (fun h204 => ?_)
    · exact absurd h204 (nI_pos (by omega))
    · refine p_iload (z_dec zd_X9_order 116 rfl) 2 rfl (n := 209) rfl ?_
      refine p_iconst (z_dec zd_X9_order 117 rfl) (v := 1) (by decide) (n := 210) rfl ?_
      refine p_iload (z_dec zd_X9_order 118 rfl) 0 rfl (n := 212) rfl ?_
      refine p_ishl (z_dec zd_X9_order 119 rfl) (n := 213) rfl ?_
      refine p_iconst (z_dec zd_X9_order 120 rfl) (v := (-1)) (by decide) (n := 214) rfl ?_
      refine p_ixor (z_dec zd_X9_order 121 rfl) (n := 215) rfl ?_
      refine p_iand (z_dec zd_X9_order 122 rfl) (n := 216) rfl ?_
      refine z_lv rfl (show _ = [.int (nI (yj_bh left q))] from (by rw [← (yj_bhE (left := left) (p := q) (by omega)).1])) rfl ?_
      refine p_istore (z_dec zd_X9_order 123 rfl) (lv2 := [(9, .int (nI (yj_bh left q))), (8, .int (nI q)), (7, .int v), (4, .int (nI left)), (6, .int i6), (5, .int a5), (3, .int all), (0, .ref 54), (1, .int sh), (2, .int k)]) (by decide) rfl (n := 218) rfl ?_
      refine p_iload (z_dec zd_X9_order 124 rfl) 3 rfl (n := 220) rfl ?_
      refine p_iload (z_dec zd_X9_order 125 rfl) 1 rfl (n := 222) rfl ?_
      refine q_callS (As := [.int (nI left), .int (nI q)]) (rest := []) (z_dec zd_X9_order 126 rfl) zk_X9_216 zs_X9_isIn (c_X9_isIn (d - 1) (by omega) b I L (nI left) (nI q)) rfl rfl (Nat.le_of_ble_eq_true rfl) (by omega) (n := 225) rfl ?_
      show PW zm_X9_order d 225 [(9, .int (nI (yj_bh left q))), (8, .int (nI q)), (7, .int v), (4, .int (nI left)), (6, .int i6), (5, .int a5), (3, .int all), (0, .ref 54), (1, .int sh), (2, .int k)] [.int (f_X9_isIn (nI left) (nI q))] SH (I, L, z_R b) 0 0 _
      refine p_if_eq (z_dec zd_X9_order 127 rfl) (t := 259) (by decide) (n := 228) rfl (fun h225 => ?_) (fun h225 => ?_)
      · refine p_iload (z_dec zd_X9_order 144 rfl) 2 rfl (n := 261) rfl ?_
        refine p_istore (z_dec zd_X9_order 145 rfl) (lv2 := [(7, .int v), (9, .int (nI (yj_bh left q))), (8, .int (nI q)), (4, .int (nI left)), (6, .int i6), (5, .int a5), (3, .int all), (0, .ref 54), (1, .int sh), (2, .int k)]) (by decide) rfl (n := 263) rfl ?_
        refine p_iinc (z_dec zd_X9_order 146 rfl) 2 rfl (v := (yj_p8 q)) (yj_p8E q) (lv2 := [(8, .int (yj_p8 q)), (7, .int v), (9, .int (nI (yj_bh left q))), (4, .int (nI left)), (6, .int i6), (5, .int a5), (3, .int all), (0, .ref 54), (1, .int sh), (2, .int k)]) (by decide) rfl (n := 266) rfl ?_
        refine p_goto (z_dec zd_X9_order 147 rfl) (t := 202) (by decide) ?_
        refine z_sub (lv' := [(8, .int (yj_p8 q)), (7, .int v), (4, .int (nI left)), (6, .int i6), (5, .int a5), (3, .int all), (0, .ref 54), (1, .int sh), (2, .int k)]) [0, 1, 3, 4, 5, 6, 7, 8, 9] rfl ?_
        rw [show yj_nxt np I left (q + 1) v = yj_nxt np I left q v from by (conv => lhs; unfold yj_nxt); rw [if_pos h225]] at hk
        exact yj_orL d hd b I L np hN hn10 left hl sh k a5 all i6 E q v (by omega) hk
      · have hb := (yj_bhE (left := left) (p := q) (by omega)).2
        refine p_aload_n (z_dec zd_X9_order 128 rfl) rfl 7 rfl (n := 229) rfl ?_
        refine q_getR (z_dec zd_X9_order 129 rfl) zf_X9_49 (i := 68) rfl rfl (n := 232) rfl ?_
        refine p_iload (z_dec zd_X9_order 130 rfl) 0 rfl (n := 234) rfl ?_
        refine q_iald (z_dec zd_X9_order 131 rfl) rfl (by decide) ((yj_bh left q)) rfl (by omega) (v := (I 68 (yj_bh left q))) rfl (n := 235) rfl ?_
        refine p_aload_n (z_dec zd_X9_order 132 rfl) rfl 7 rfl (n := 236) rfl ?_
        refine p_iload (z_dec zd_X9_order 133 rfl) 1 rfl (n := 238) rfl ?_
        refine p_iload (z_dec zd_X9_order 134 rfl) 0 rfl (n := 240) rfl ?_
        refine q_callV (As := [.int (nI q), .int (nI (yj_bh left q))]) (rest := [.int (I 68 (yj_bh left q))]) (z_dec zd_X9_order 135 rfl) zk_X9_255 zv_X9_upsetBy (c_X9_upsetBy (d - 1) (by omega) b I L np hN hn10 q (by omega) (nI (yj_bh left q))) rfl ⟨_, _, rfl⟩ rfl rfl (Nat.le_of_ble_eq_true rfl) (by omega) (n := 243) rfl ?_
        show PW zm_X9_order d 243 [(9, .int (nI (yj_bh left q))), (8, .int (nI q)), (7, .int v), (4, .int (nI left)), (6, .int i6), (5, .int a5), (3, .int all), (0, .ref 54), (1, .int sh), (2, .int k)] [.int (f_X9_upsetBy I np q (nI (yj_bh left q))), .int (I 68 (yj_bh left q))] SH (I, L, z_R b) 0 0 _
        refine p_iadd (z_dec zd_X9_order 136 rfl) (n := 244) rfl ?_
        refine p_aload_n (z_dec zd_X9_order 137 rfl) rfl 7 rfl (n := 245) rfl ?_
        refine q_getR (z_dec zd_X9_order 138 rfl) zf_X9_49 (i := 68) rfl rfl (n := 248) rfl ?_
        refine p_iload (z_dec zd_X9_order 139 rfl) 3 rfl (n := 250) rfl ?_
        refine q_iald (z_dec zd_X9_order 140 rfl) rfl (by decide) (left) rfl (by omega) (v := (I 68 left)) rfl (n := 251) rfl ?_
        refine p_icmp_ne (z_dec zd_X9_order 141 rfl) (t := 259) (by decide) (n := 254) rfl (fun h251 => ?_) (fun h251 => ?_)
        · refine p_iload (z_dec zd_X9_order 144 rfl) 2 rfl (n := 261) rfl ?_
          refine p_istore (z_dec zd_X9_order 145 rfl) (lv2 := [(7, .int v), (9, .int (nI (yj_bh left q))), (8, .int (nI q)), (4, .int (nI left)), (6, .int i6), (5, .int a5), (3, .int all), (0, .ref 54), (1, .int sh), (2, .int k)]) (by decide) rfl (n := 263) rfl ?_
          refine p_iinc (z_dec zd_X9_order 146 rfl) 2 rfl (v := (yj_p8 q)) (yj_p8E q) (lv2 := [(8, .int (yj_p8 q)), (7, .int v), (9, .int (nI (yj_bh left q))), (4, .int (nI left)), (6, .int i6), (5, .int a5), (3, .int all), (0, .ref 54), (1, .int sh), (2, .int k)]) (by decide) rfl (n := 266) rfl ?_
          refine p_goto (z_dec zd_X9_order 147 rfl) (t := 202) (by decide) ?_
          refine z_sub (lv' := [(8, .int (yj_p8 q)), (7, .int v), (4, .int (nI left)), (6, .int i6), (5, .int a5), (3, .int all), (0, .ref 54), (1, .int sh), (2, .int k)]) [0, 1, 3, 4, 5, 6, 7, 8, 9] rfl ?_
          rw [show yj_nxt np I left (q + 1) v = yj_nxt np I left q v from by (conv => lhs; unfold yj_nxt); rw [if_neg h225, if_neg h251]] at hk
          exact yj_orL d hd b I L np hN hn10 left hl sh k a5 all i6 E q v (by omega) hk
        · refine p_iload (z_dec zd_X9_order 142 rfl) 1 rfl (n := 256) rfl ?_
          refine p_goto (z_dec zd_X9_order 143 rfl) (t := 261) (by decide) ?_
          refine p_istore (z_dec zd_X9_order 145 rfl) (lv2 := [(7, .int (nI q)), (9, .int (nI (yj_bh left q))), (8, .int (nI q)), (4, .int (nI left)), (6, .int i6), (5, .int a5), (3, .int all), (0, .ref 54), (1, .int sh), (2, .int k)]) (by decide) rfl (n := 263) rfl ?_
          refine p_iinc (z_dec zd_X9_order 146 rfl) 2 rfl (v := (yj_p8 q)) (yj_p8E q) (lv2 := [(8, .int (yj_p8 q)), (7, .int (nI q)), (9, .int (nI (yj_bh left q))), (4, .int (nI left)), (6, .int i6), (5, .int a5), (3, .int all), (0, .ref 54), (1, .int sh), (2, .int k)]) (by decide) rfl (n := 266) rfl ?_
          refine p_goto (z_dec zd_X9_order 147 rfl) (t := 202) (by decide) ?_
          refine z_sub (lv' := [(8, .int (yj_p8 q)), (7, .int (nI q)), (4, .int (nI left)), (6, .int i6), (5, .int a5), (3, .int all), (0, .ref 54), (1, .int sh), (2, .int k)]) [0, 1, 3, 4, 5, 6, 7, 8, 9] rfl ?_
          rw [show yj_nxt np I left (q + 1) v = yj_nxt np I left q (nI q) from by (conv => lhs; unfold yj_nxt); rw [if_neg h225, if_pos h251]] at hk
          exact yj_orL d hd b I L np hN hn10 left hl sh k a5 all i6 E q (nI q) (by omega) hk
set_option maxHeartbeats 1000000 in
set_option maxRecDepth 100000 in
theorem yj_orT (d : Nat) (hd : 57 ≤ d) (b : Bool) (I : Nat → Nat → Int32) (L : Nat → Nat → Int64) (np : Nat) (hN : z_N np I) (hn10 : np ≤ 10) (hT : yj_oH np I) (sh k all : Int32) : ∀ (r i left : Nat) (a5 : Int32), i + r ≤ 10 → left < 1024 → left < 2 ^ np → yj_cn (fun j => left.testBit j) 10 = r → PW zm_X9_order d 180 [(6, .int (nI i)), (4, .int (nI left)), (5, .int a5), (3, .int all), (0, .ref 54), (1, .int sh), (2, .int k)] [] SH (I, L, z_R b) 0 0 (z_ret (some (.int (yj_oA np I k r i left a5))) (I, L, z_R b))
  | 0, i, left, a5, hr, hl, hl2, hc => by
    refine p_iload (z_dec zd_X9_order 102 rfl) 0 rfl (n := 182) rfl ?_
    refine p_iload_n (z_dec zd_X9_order 103 rfl) rfl 6 rfl (n := 183) rfl ?_
    refine p_icmp_gt (z_dec zd_X9_order 104 rfl) (t := 301) (by decide) (n := 186) rfl (fun h183 => ?_) (fun h183 => ?_)
    · refine p_iload (z_dec zd_X9_order 165 rfl) 2 rfl (n := 303) rfl ?_
      exact p_iret (z_dec zd_X9_order 166 rfl) rfl ⟨rfl, rfl, rfl⟩
    · refine p_iload (z_dec zd_X9_order 105 rfl) 1 rfl (n := 188) rfl ?_
      refine p_if_eq (z_dec zd_X9_order 106 rfl) (t := 301) (by decide) (n := 191) rfl (fun h188 => ?_) (fun h188 => ?_)
      · refine p_iload (z_dec zd_X9_order 165 rfl) 2 rfl (n := 303) rfl ?_
        exact p_iret (z_dec zd_X9_order 166 rfl) rfl ⟨rfl, rfl, rfl⟩
      · exact absurd (show nI left = 0 by rw [yj_cn0 hl hc]; rfl) h188
  | r + 1, i, left, a5, hr, hl, hl2, hc => by
    refine p_iload (z_dec zd_X9_order 102 rfl) 0 rfl (n := 182) rfl ?_
    refine p_iload_n (z_dec zd_X9_order 103 rfl) rfl 6 rfl (n := 183) rfl ?_
    refine p_icmp_gt (z_dec zd_X9_order 104 rfl) (t := 301) (by decide) (n := 186) rfl (fun h183 => ?_) (fun h183 => ?_)
    · refine p_iload (z_dec zd_X9_order 165 rfl) 2 rfl (n := 303) rfl ?_
      exact p_iret (z_dec zd_X9_order 166 rfl) rfl ⟨(by (conv => rhs; unfold yj_oA); rw [if_pos h183]), rfl, rfl⟩
    · refine p_iload (z_dec zd_X9_order 105 rfl) 1 rfl (n := 188) rfl ?_
      refine p_if_eq (z_dec zd_X9_order 106 rfl) (t := 301) (by decide) (n := 191) rfl (fun h188 => ?_) (fun h188 => ?_)
      · exact absurd h188 (nI_ne0 (yj_cnP hc) (by omega))
      · have hl0 := yj_cnP hc
        refine p_iconst (z_dec zd_X9_order 107 rfl) (v := (-1)) (by decide) (n := 192) rfl ?_
        refine p_istore (z_dec zd_X9_order 108 rfl) (lv2 := [(7, .int (-1)), (6, .int (nI i)), (4, .int (nI left)), (5, .int a5), (3, .int all), (0, .ref 54), (1, .int sh), (2, .int k)]) (by decide) rfl (n := 194) rfl ?_
        refine p_aload_n (z_dec zd_X9_order 109 rfl) rfl 5 rfl (n := 195) rfl ?_
        refine q_getI (z_dec zd_X9_order 110 rfl) zf_X9_93 (by decide) rfl (v := (nI np)) hN (n := 198) rfl ?_
        refine p_iconst (z_dec zd_X9_order 111 rfl) (v := 1) (by decide) (n := 199) rfl ?_
        refine p_isub (z_dec zd_X9_order 112 rfl) (n := 200) rfl ?_
        refine z_lv rfl (show _ = [.int (yj_p8 np)] from (by rw [yj_p8N])) rfl ?_
        refine p_istore (z_dec zd_X9_order 113 rfl) (lv2 := [(8, .int (yj_p8 np)), (7, .int (-1)), (6, .int (nI i)), (4, .int (nI left)), (5, .int a5), (3, .int all), (0, .ref 54), (1, .int sh), (2, .int k)]) (by decide) rfl (n := 202) rfl ?_
        refine z_sub (lv' := [(8, .int (yj_p8 np)), (7, .int (-1)), (4, .int (nI left)), (6, .int (nI i)), (5, .int a5), (3, .int all), (0, .ref 54), (1, .int sh), (2, .int k)]) [0, 1, 3, 2, 4, 5, 6, 7, 8] rfl ?_
        obtain ⟨p, hp, hb, hx⟩ := hT left (by omega) hl2
        refine yj_orL d hd b I L np hN hn10 left (by omega) sh k a5 all (nI i) _ np (-1) (Nat.le_refl _) ?_
        rw [hx]
        have hz := yj_bhN hl hp hb hn10
        refine p_iload (z_dec zd_X9_order 148 rfl) 1 rfl (n := 271) rfl ?_
        refine p_iconst (z_dec zd_X9_order 149 rfl) (v := 1) (by decide) (n := 272) rfl ?_
        refine p_iload (z_dec zd_X9_order 150 rfl) 0 rfl (n := 274) rfl ?_
        refine p_ishl (z_dec zd_X9_order 151 rfl) (n := 275) rfl ?_
        refine p_iconst (z_dec zd_X9_order 152 rfl) (v := (-1)) (by decide) (n := 276) rfl ?_
        refine p_ixor (z_dec zd_X9_order 153 rfl) (n := 277) rfl ?_
        refine p_iand (z_dec zd_X9_order 154 rfl) (n := 278) rfl ?_
        refine z_lv rfl (show _ = [.int (nI (yj_bh left p))] from (by rw [← (yj_bhE (left := left) (p := p) (by omega)).1])) rfl ?_
        refine p_istore (z_dec zd_X9_order 155 rfl) (lv2 := [(4, .int (nI (yj_bh left p))), (7, .int (nI p)), (6, .int (nI i)), (5, .int a5), (3, .int all), (0, .ref 54), (1, .int sh), (2, .int k)]) (by decide) rfl (n := 280) rfl ?_
        refine p_iload (z_dec zd_X9_order 156 rfl) 2 rfl (n := 282) rfl ?_
        refine p_iload_n (z_dec zd_X9_order 157 rfl) rfl 7 rfl (n := 283) rfl ?_
        refine p_icmp_ne (z_dec zd_X9_order 158 rfl) (t := 291) (by decide) (n := 286) rfl (fun h283 => ?_) (fun h283 => ?_)
        · refine p_iload (z_dec zd_X9_order 161 rfl) 3 rfl (n := 293) rfl ?_
          refine p_istore (z_dec zd_X9_order 162 rfl) (lv2 := [(5, .int a5), (4, .int (nI (yj_bh left p))), (7, .int (nI p)), (6, .int (nI i)), (3, .int all), (0, .ref 54), (1, .int sh), (2, .int k)]) (by decide) rfl (n := 295) rfl ?_
          refine p_iinc (z_dec zd_X9_order 163 rfl) 3 rfl (v := (nI (i + 1))) (nI_1 _) (lv2 := [(6, .int (nI (i + 1))), (5, .int a5), (4, .int (nI (yj_bh left p))), (7, .int (nI p)), (3, .int all), (0, .ref 54), (1, .int sh), (2, .int k)]) (by decide) rfl (n := 298) rfl ?_
          refine p_goto (z_dec zd_X9_order 164 rfl) (t := 180) (by decide) ?_
          refine z_sub (lv' := [(6, .int (nI (i + 1))), (4, .int (nI (yj_bh left p))), (5, .int a5), (3, .int all), (0, .ref 54), (1, .int sh), (2, .int k)]) [0, 2, 1, 4, 5, 6, 7] rfl ?_
          rw [show yj_oA np I k (r + 1) i left a5 = yj_oA np I k r (i + 1) (yj_bh left p) a5 from by (conv => lhs; unfold yj_oA); rw [hx, nI_clamp (by omega), if_neg h183, if_neg h283]]
          exact yj_orT d hd b I L np hN hn10 hT sh k all r (i + 1) (yj_bh left p) a5 (by omega) (by omega) (by omega) hz.2
        · refine p_iload (z_dec zd_X9_order 159 rfl) 1 rfl (n := 288) rfl ?_
          refine p_goto (z_dec zd_X9_order 160 rfl) (t := 293) (by decide) ?_
          refine p_istore (z_dec zd_X9_order 162 rfl) (lv2 := [(5, .int (nI p)), (4, .int (nI (yj_bh left p))), (7, .int (nI p)), (6, .int (nI i)), (3, .int all), (0, .ref 54), (1, .int sh), (2, .int k)]) (by decide) rfl (n := 295) rfl ?_
          refine p_iinc (z_dec zd_X9_order 163 rfl) 3 rfl (v := (nI (i + 1))) (nI_1 _) (lv2 := [(6, .int (nI (i + 1))), (5, .int (nI p)), (4, .int (nI (yj_bh left p))), (7, .int (nI p)), (3, .int all), (0, .ref 54), (1, .int sh), (2, .int k)]) (by decide) rfl (n := 298) rfl ?_
          refine p_goto (z_dec zd_X9_order 164 rfl) (t := 180) (by decide) ?_
          refine z_sub (lv' := [(6, .int (nI (i + 1))), (4, .int (nI (yj_bh left p))), (5, .int (nI p)), (3, .int all), (0, .ref 54), (1, .int sh), (2, .int k)]) [0, 2, 1, 4, 5, 6, 7] rfl ?_
          rw [show yj_oA np I k (r + 1) i left a5 = yj_oA np I k r (i + 1) (yj_bh left p) (nI p) from by (conv => lhs; unfold yj_oA); rw [hx, nI_clamp (by omega), if_neg h183, if_pos h283]]
          exact yj_orT d hd b I L np hN hn10 hT sh k all r (i + 1) (yj_bh left p) (nI p) (by omega) (by omega) (by omega) hz.2
