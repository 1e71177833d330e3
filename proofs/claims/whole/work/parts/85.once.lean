theorem yq_63 (x : Int32) : ∃ c : Nat, c ≤ 63 ∧ x &&& 63 = nI c := by
  have g := z_andN (g := 63) (by omega) x
  refine ⟨(nI 63 &&& x).toNatClampNeg, g.2, ?_⟩
  rw [← g.1, Int32.and_comm]
  rfl
theorem yq_bc (x : Int32) : ∃ c : Nat, c ≤ 63 ∧ f_J6_bitCount_0f7a4 x = nI c := by
  unfold f_J6_bitCount_0f7a4
  exact yq_63 _
theorem yq_m3 {c : Nat} (h : c ≤ 63) : nI c / 3 = nI (c / 3) := pk_div (d := 3) (by omega) (by omega) (by omega)
theorem yq_mo (I : Nat → Nat → Int32) (np : Nat) (free : Int32) : ∃ c : Nat, c ≤ 63 ∧ f_X7_mostAtOnce I 1 np free = nI c := by
  unfold f_X7_mostAtOnce
  obtain ⟨c, hc, e⟩ := yq_bc free
  split
  · exact ⟨c / 3, by omega, by rw [e, yq_m3 hc]⟩
  · exact yq_bc _
theorem yq_mk {I : Nat → Nat → Int32} {np : Nat} {free k : Int32} (h0 : ¬ k < -1) (h1 : ¬ k = -1) (h : k < f_X7_mostAtOnce I 1 np free) : k = nI k.toNatClampNeg ∧ k.toNatClampNeg < 63 := by
  obtain ⟨c, hc, e⟩ := yq_mo I np free
  rw [e] at h
  have h3 : ¬ k < 0 := by
    intro q
    apply h1
    apply Int32.toInt_inj.mp
    rw [Int32.lt_iff_toInt_lt] at q h0
    have e0 : (0 : Int32).toInt = 0 := rfl
    have e1 : (-1 : Int32).toInt = -1 := rfl
    omega
  obtain ⟨a1, a2⟩ := z_inN (N := c) h3 (Int32.not_le.mpr h) (by omega)
  exact ⟨a1, by omega⟩
def gx_X8_atOnce_46 (I : Nat → Nat → Int32) (np : Nat) : Nat → Nat → (Int32) → (Int32) → Int32
  | 0, t46, v2, v4 => v4
  | r46 + 1, t46, v2, v4 => if (f_X7_mostAtOnce I 1 np (f_X7_freeBits I 1 np)) ≤ (nI t46) then v4 else if 0 ≤ (f_X7_firstAtOnce I np v2 ((f_X7_mostAtOnce I 1 np (f_X7_freeBits I 1 np)) - (nI t46))) then gx_X8_atOnce_46 I np r46 (t46 + 1) (v2 &&& (((((1 : Int32) <<< (((f_X7_firstAtOnce I np v2 ((f_X7_mostAtOnce I 1 np (f_X7_freeBits I 1 np)) - (nI t46))) / 100) &&& 31)) ||| ((1 : Int32) <<< ((((f_X7_firstAtOnce I np v2 ((f_X7_mostAtOnce I 1 np (f_X7_freeBits I 1 np)) - (nI t46))) / 10) - ((f_X7_firstAtOnce I np v2 ((f_X7_mostAtOnce I 1 np (f_X7_freeBits I 1 np)) - (nI t46))) / 10) / 10 * 10) &&& 31))) ||| ((1 : Int32) <<< (((f_X7_firstAtOnce I np v2 ((f_X7_mostAtOnce I 1 np (f_X7_freeBits I 1 np)) - (nI t46))) - (f_X7_firstAtOnce I np v2 ((f_X7_mostAtOnce I 1 np (f_X7_freeBits I 1 np)) - (nI t46))) / 10 * 10) &&& 31))) ^^^ (-1))) (f_X7_firstAtOnce I np v2 ((f_X7_mostAtOnce I 1 np (f_X7_freeBits I 1 np)) - (nI t46))) else (-2)
def f_X8_atOnce (I : Nat → Nat → Int32) (np : Nat) (k : Int32) : Int32 := if (-1) ≤ k then if k = (-1) then (f_X7_mostAtOnce I 1 np (f_X7_freeBits I 1 np)) else if k < (f_X7_mostAtOnce I 1 np (f_X7_freeBits I 1 np)) then (gx_X8_atOnce_46 I np (k.toNatClampNeg + 1) 0 (f_X7_freeBits I 1 np) (-2)) else (-2) else (-1)
set_option maxHeartbeats 1000000 in
set_option maxRecDepth 100000 in
theorem c_X8_atOnce (d : Nat) (hd : 4 ≤ d) (b : Bool) (I : Nat → Nat → Int32) (L : Nat → Nat → Int64) (np : Nat) (hnp : I 1 0 = nI np) (hn10 : np ≤ 10) (k : Int32) : z_CT zm_X8_atOnce d [.ref 0, .int k] SH (I, L, z_R b) 0 0 (z_ret (some (.int (f_X8_atOnce I np k))) (I, L, z_R b)) := by
  refine z_enter (by decide +kernel) (Nat.le_of_ble_eq_true rfl) ?_
  have hentry : PW zm_X8_atOnce d 0 [(0, .ref 0), (1, .int k)] [] SH (I, L, z_R b) 0 0 (z_ret (some (.int (f_X8_atOnce I np k))) (I, L, z_R b)) := by
    refine p_iload_n (z_dec zd_X8_atOnce 0 rfl) rfl 1 rfl (n := 1) rfl ?_
    refine p_iconst (z_dec zd_X8_atOnce 1 rfl) (v := (-1)) (by decide) (n := 2) rfl ?_
    refine p_icmp_ge (z_dec zd_X8_atOnce 2 rfl) (t := 7) (by decide) (n := 5) rfl (fun h2 => ?_) (fun h2 => ?_)
    · refine p_aload_n (z_dec zd_X8_atOnce 5 rfl) rfl 0 rfl (n := 8) rfl ?_
      refine q_getR (z_dec zd_X8_atOnce 6 rfl) zf_X8_10 (i := 1) rfl rfl (n := 11) rfl ?_
      refine q_callV (As := []) (rest := []) (z_dec zd_X8_atOnce 7 rfl) zk_X8_172 zv_X7_freeBits (c_X7_freeBits (d - 1) (by omega) b I L 1 (z_Yd1 b) np hnp hn10) rfl ⟨_, _, rfl⟩ rfl rfl (Nat.le_of_ble_eq_true rfl) (by omega) (n := 14) rfl ?_
      show PW zm_X8_atOnce d 14 [(0, .ref 0), (1, .int k)] [.int (f_X7_freeBits I 1 np)] SH (I, L, z_R b) 0 0 _
      refine p_istore_n (z_dec zd_X8_atOnce 8 rfl) rfl (lv2 := [(2, .int (f_X7_freeBits I 1 np)), (0, .ref 0), (1, .int k)]) (by decide) rfl (n := 15) rfl ?_
      refine p_aload_n (z_dec zd_X8_atOnce 9 rfl) rfl 1 rfl (n := 16) rfl ?_
      refine q_getR (z_dec zd_X8_atOnce 10 rfl) zf_X8_10 (i := 1) rfl rfl (n := 19) rfl ?_
      refine p_iload_n (z_dec zd_X8_atOnce 11 rfl) rfl 0 rfl (n := 20) rfl ?_
      refine q_callV (As := [.int (f_X7_freeBits I 1 np)]) (rest := []) (z_dec zd_X8_atOnce 12 rfl) zk_X8_175 zv_X7_mostAtOnce (c_X7_mostAtOnce (d - 1) (by omega) b I L 1 (z_Yd1 b) np hnp hn10 (f_X7_freeBits I 1 np)) rfl ⟨_, _, rfl⟩ rfl rfl (Nat.le_of_ble_eq_true rfl) (by omega) (n := 23) rfl ?_
      show PW zm_X8_atOnce d 23 [(2, .int (f_X7_freeBits I 1 np)), (0, .ref 0), (1, .int k)] [.int (f_X7_mostAtOnce I 1 np (f_X7_freeBits I 1 np))] SH (I, L, z_R b) 0 0 _
      refine p_istore_n (z_dec zd_X8_atOnce 13 rfl) rfl (lv2 := [(3, .int (f_X7_mostAtOnce I 1 np (f_X7_freeBits I 1 np))), (2, .int (f_X7_freeBits I 1 np)), (0, .ref 0), (1, .int k)]) (by decide) rfl (n := 24) rfl ?_
      refine p_iload_n (z_dec zd_X8_atOnce 14 rfl) rfl 3 rfl (n := 25) rfl ?_
      refine p_iconst (z_dec zd_X8_atOnce 15 rfl) (v := (-1)) (by decide) (n := 26) rfl ?_
      refine p_icmp_ne (z_dec zd_X8_atOnce 16 rfl) (t := 31) (by decide) (n := 29) rfl (fun h26 => ?_) (fun h26 => ?_)
      · refine p_iload_n (z_dec zd_X8_atOnce 19 rfl) rfl 3 rfl (n := 32) rfl ?_
        refine p_iload_n (z_dec zd_X8_atOnce 20 rfl) rfl 0 rfl (n := 33) rfl ?_
        refine p_icmp_lt (z_dec zd_X8_atOnce 21 rfl) (t := 39) (by decide) (n := 36) rfl (fun h33 => ?_) (fun h33 => ?_)
        · have hk := yq_mk (Int32.not_lt.mpr h2) h26 h33
          refine p_bipush (z_dec zd_X8_atOnce 24 rfl) (v := (-2)) (by decide) (n := 41) rfl ?_
          refine p_istore (z_dec zd_X8_atOnce 25 rfl) (lv2 := [(4, .int (-2)), (3, .int (f_X7_mostAtOnce I 1 np (f_X7_freeBits I 1 np))), (2, .int (f_X7_freeBits I 1 np)), (0, .ref 0), (1, .int k)]) (by decide) rfl (n := 43) rfl ?_
          refine p_iconst (z_dec zd_X8_atOnce 26 rfl) (v := 0) (by decide) (n := 44) rfl ?_
          refine p_istore (z_dec zd_X8_atOnce 27 rfl) (lv2 := [(5, .int 0), (4, .int (-2)), (3, .int (f_X7_mostAtOnce I 1 np (f_X7_freeBits I 1 np))), (2, .int (f_X7_freeBits I 1 np)), (0, .ref 0), (1, .int k)]) (by decide) rfl (n := 46) rfl ?_
          have hL46 : ∀ (r46 t46 : Nat) (v2 : Int32) (v4 : Int32), t46 + r46 = k.toNatClampNeg + 1 → PW zm_X8_atOnce d 46 [(5, .int (nI t46)), (4, .int v4), (3, .int (f_X7_mostAtOnce I 1 np (f_X7_freeBits I 1 np))), (2, .int v2), (0, .ref 0), (1, .int k)] [] SH (I, L, z_R b) 0 0 (z_ret (some (.int (gx_X8_atOnce_46 I np r46 t46 v2 v4))) (I, L, z_R b)) := by
            intro r46
            induction r46 with
            | zero =>
              intro t46 v2 v4 ht46
              refine p_iload (z_dec zd_X8_atOnce 28 rfl) 0 rfl (n := 48) rfl ?_
              refine p_iload_n (z_dec zd_X8_atOnce 29 rfl) rfl 5 rfl (n := 49) rfl ?_
              refine p_icmp_gt (z_dec zd_X8_atOnce 30 rfl) (t := 117) (by decide) (n := 52) rfl (fun h49 => ?_) (fun h49 => ?_)
              · refine p_iload (z_dec zd_X8_atOnce 72 rfl) 1 rfl (n := 119) rfl ?_
                exact p_iret (z_dec zd_X8_atOnce 73 rfl) rfl ⟨rfl, rfl, rfl⟩
              · exact absurd ((by have := z_nlt (a := k.toNatClampNeg) (b := t46) (by rw [← hk.1]; exact h49); exact this)) (by omega)
            | succ r46 ih46 =>
              intro t46 v2 v4 ht46
              refine p_iload (z_dec zd_X8_atOnce 28 rfl) 0 rfl (n := 48) rfl ?_
              refine p_iload_n (z_dec zd_X8_atOnce 29 rfl) rfl 5 rfl (n := 49) rfl ?_
              refine p_icmp_gt (z_dec zd_X8_atOnce 30 rfl) (t := 117) (by decide) (n := 52) rfl (fun h49 => ?_) (fun h49 => ?_)
              · exact absurd ((by have := z_lt (a := k.toNatClampNeg) (b := t46) (by rw [← hk.1]; exact h49); exact this)) (by omega)
              · have hx46 : t46 < k.toNatClampNeg + 1 := by omega
                refine p_iload (z_dec zd_X8_atOnce 31 rfl) 0 rfl (n := 54) rfl ?_
                refine p_iload_n (z_dec zd_X8_atOnce 32 rfl) rfl 2 rfl (n := 55) rfl ?_
                refine p_icmp_ge (z_dec zd_X8_atOnce 33 rfl) (t := 117) (by decide) (n := 58) rfl (fun h55 => ?_) (fun h55 => ?_)
                · refine p_iload (z_dec zd_X8_atOnce 72 rfl) 1 rfl (n := 119) rfl ?_
                  exact p_iret (z_dec zd_X8_atOnce 73 rfl) rfl ⟨(by (conv => rhs; unfold gx_X8_atOnce_46); rw [if_pos h55]), rfl, rfl⟩
                · refine p_aload_n (z_dec zd_X8_atOnce 34 rfl) rfl 4 rfl (n := 59) rfl ?_
                  refine q_getR (z_dec zd_X8_atOnce 35 rfl) zf_X8_10 (i := 1) rfl rfl (n := 62) rfl ?_
                  refine p_iload_n (z_dec zd_X8_atOnce 36 rfl) rfl 3 rfl (n := 63) rfl ?_
                  refine p_iload_n (z_dec zd_X8_atOnce 37 rfl) rfl 2 rfl (n := 64) rfl ?_
                  refine p_iload (z_dec zd_X8_atOnce 38 rfl) 0 rfl (n := 66) rfl ?_
                  refine p_isub (z_dec zd_X8_atOnce 39 rfl) (n := 67) rfl ?_
                  refine q_callV (As := [.int v2, .int ((f_X7_mostAtOnce I 1 np (f_X7_freeBits I 1 np)) - (nI t46))]) (rest := []) (z_dec zd_X8_atOnce 40 rfl) zk_X8_178 zv_X7_firstAtOnce (c_X7_firstAtOnce (d - 1) (by omega) b I L np hnp hn10 v2 ((f_X7_mostAtOnce I 1 np (f_X7_freeBits I 1 np)) - (nI t46))) rfl ⟨_, _, rfl⟩ rfl rfl (Nat.le_of_ble_eq_true rfl) (by omega) (n := 70) rfl ?_
                  show PW zm_X8_atOnce d 70 [(5, .int (nI t46)), (4, .int v4), (3, .int (f_X7_mostAtOnce I 1 np (f_X7_freeBits I 1 np))), (2, .int v2), (0, .ref 0), (1, .int k)] [.int (f_X7_firstAtOnce I np v2 ((f_X7_mostAtOnce I 1 np (f_X7_freeBits I 1 np)) - (nI t46)))] SH (I, L, z_R b) 0 0 _
                  refine p_istore (z_dec zd_X8_atOnce 41 rfl) (lv2 := [(4, .int (f_X7_firstAtOnce I np v2 ((f_X7_mostAtOnce I 1 np (f_X7_freeBits I 1 np)) - (nI t46)))), (5, .int (nI t46)), (3, .int (f_X7_mostAtOnce I 1 np (f_X7_freeBits I 1 np))), (2, .int v2), (0, .ref 0), (1, .int k)]) (by decide) rfl (n := 72) rfl ?_
                  refine p_iload (z_dec zd_X8_atOnce 42 rfl) 0 rfl (n := 74) rfl ?_
                  refine p_if_ge (z_dec zd_X8_atOnce 43 rfl) (t := 80) (by decide) (n := 77) rfl (fun h74 => ?_) (fun h74 => ?_)
                  · refine p_iload_n (z_dec zd_X8_atOnce 46 rfl) rfl 3 rfl (n := 81) rfl ?_
                    refine p_iconst (z_dec zd_X8_atOnce 47 rfl) (v := 1) (by decide) (n := 82) rfl ?_
                    refine p_iload (z_dec zd_X8_atOnce 48 rfl) 0 rfl (n := 84) rfl ?_
                    refine p_bipush (z_dec zd_X8_atOnce 49 rfl) (v := 100) (by decide) (n := 86) rfl ?_
                    refine p_idiv (z_dec zd_X8_atOnce 50 rfl) (by decide) (n := 87) rfl ?_
                    refine p_ishl (z_dec zd_X8_atOnce 51 rfl) (n := 88) rfl ?_
                    refine p_iconst (z_dec zd_X8_atOnce 52 rfl) (v := 1) (by decide) (n := 89) rfl ?_
                    refine p_iload (z_dec zd_X8_atOnce 53 rfl) 0 rfl (n := 91) rfl ?_
                    refine p_bipush (z_dec zd_X8_atOnce 54 rfl) (v := 10) (by decide) (n := 93) rfl ?_
                    refine p_idiv (z_dec zd_X8_atOnce 55 rfl) (by decide) (n := 94) rfl ?_
                    refine p_bipush (z_dec zd_X8_atOnce 56 rfl) (v := 10) (by decide) (n := 96) rfl ?_
                    refine p_irem (z_dec zd_X8_atOnce 57 rfl) (by decide) (n := 97) rfl ?_
                    refine p_ishl (z_dec zd_X8_atOnce 58 rfl) (n := 98) rfl ?_
                    refine p_ior (z_dec zd_X8_atOnce 59 rfl) (n := 99) rfl ?_
                    refine p_iconst (z_dec zd_X8_atOnce 60 rfl) (v := 1) (by decide) (n := 100) rfl ?_
                    refine p_iload (z_dec zd_X8_atOnce 61 rfl) 0 rfl (n := 102) rfl ?_
                    refine p_bipush (z_dec zd_X8_atOnce 62 rfl) (v := 10) (by decide) (n := 104) rfl ?_
                    refine p_irem (z_dec zd_X8_atOnce 63 rfl) (by decide) (n := 105) rfl ?_
                    refine p_ishl (z_dec zd_X8_atOnce 64 rfl) (n := 106) rfl ?_
                    refine p_ior (z_dec zd_X8_atOnce 65 rfl) (n := 107) rfl ?_
                    refine p_iconst (z_dec zd_X8_atOnce 66 rfl) (v := (-1)) (by decide) (n := 108) rfl ?_
                    refine p_ixor (z_dec zd_X8_atOnce 67 rfl) (n := 109) rfl ?_
                    refine p_iand (z_dec zd_X8_atOnce 68 rfl) (n := 110) rfl ?_
                    refine p_istore_n (z_dec zd_X8_atOnce 69 rfl) rfl (lv2 := [(2, .int (v2 &&& (((((1 : Int32) <<< (((f_X7_firstAtOnce I np v2 ((f_X7_mostAtOnce I 1 np (f_X7_freeBits I 1 np)) - (nI t46))) / 100) &&& 31)) ||| ((1 : Int32) <<< ((((f_X7_firstAtOnce I np v2 ((f_X7_mostAtOnce I 1 np (f_X7_freeBits I 1 np)) - (nI t46))) / 10) - ((f_X7_firstAtOnce I np v2 ((f_X7_mostAtOnce I 1 np (f_X7_freeBits I 1 np)) - (nI t46))) / 10) / 10 * 10) &&& 31))) ||| ((1 : Int32) <<< (((f_X7_firstAtOnce I np v2 ((f_X7_mostAtOnce I 1 np (f_X7_freeBits I 1 np)) - (nI t46))) - (f_X7_firstAtOnce I np v2 ((f_X7_mostAtOnce I 1 np (f_X7_freeBits I 1 np)) - (nI t46))) / 10 * 10) &&& 31))) ^^^ (-1)))), (4, .int (f_X7_firstAtOnce I np v2 ((f_X7_mostAtOnce I 1 np (f_X7_freeBits I 1 np)) - (nI t46)))), (5, .int (nI t46)), (3, .int (f_X7_mostAtOnce I 1 np (f_X7_freeBits I 1 np))), (0, .ref 0), (1, .int k)]) (by decide) rfl (n := 111) rfl ?_
                    refine p_iinc (z_dec zd_X8_atOnce 70 rfl) 2 rfl (v := (nI (t46 + 1))) (nI_1 _) (lv2 := [(5, .int (nI (t46 + 1))), (2, .int (v2 &&& (((((1 : Int32) <<< (((f_X7_firstAtOnce I np v2 ((f_X7_mostAtOnce I 1 np (f_X7_freeBits I 1 np)) - (nI t46))) / 100) &&& 31)) ||| ((1 : Int32) <<< ((((f_X7_firstAtOnce I np v2 ((f_X7_mostAtOnce I 1 np (f_X7_freeBits I 1 np)) - (nI t46))) / 10) - ((f_X7_firstAtOnce I np v2 ((f_X7_mostAtOnce I 1 np (f_X7_freeBits I 1 np)) - (nI t46))) / 10) / 10 * 10) &&& 31))) ||| ((1 : Int32) <<< (((f_X7_firstAtOnce I np v2 ((f_X7_mostAtOnce I 1 np (f_X7_freeBits I 1 np)) - (nI t46))) - (f_X7_firstAtOnce I np v2 ((f_X7_mostAtOnce I 1 np (f_X7_freeBits I 1 np)) - (nI t46))) / 10 * 10) &&& 31))) ^^^ (-1)))), (4, .int (f_X7_firstAtOnce I np v2 ((f_X7_mostAtOnce I 1 np (f_X7_freeBits I 1 np)) - (nI t46)))), (3, .int (f_X7_mostAtOnce I 1 np (f_X7_freeBits I 1 np))), (0, .ref 0), (1, .int k)]) (by decide) rfl (n := 114) rfl ?_
                    refine p_goto (z_dec zd_X8_atOnce 71 rfl) (t := 46) (by decide) ?_
                    refine z_sub (lv' := [(5, .int (nI (t46 + 1))), (4, .int (f_X7_firstAtOnce I np v2 ((f_X7_mostAtOnce I 1 np (f_X7_freeBits I 1 np)) - (nI t46)))), (3, .int (f_X7_mostAtOnce I 1 np (f_X7_freeBits I 1 np))), (2, .int (v2 &&& (((((1 : Int32) <<< (((f_X7_firstAtOnce I np v2 ((f_X7_mostAtOnce I 1 np (f_X7_freeBits I 1 np)) - (nI t46))) / 100) &&& 31)) ||| ((1 : Int32) <<< ((((f_X7_firstAtOnce I np v2 ((f_X7_mostAtOnce I 1 np (f_X7_freeBits I 1 np)) - (nI t46))) / 10) - ((f_X7_firstAtOnce I np v2 ((f_X7_mostAtOnce I 1 np (f_X7_freeBits I 1 np)) - (nI t46))) / 10) / 10 * 10) &&& 31))) ||| ((1 : Int32) <<< (((f_X7_firstAtOnce I np v2 ((f_X7_mostAtOnce I 1 np (f_X7_freeBits I 1 np)) - (nI t46))) - (f_X7_firstAtOnce I np v2 ((f_X7_mostAtOnce I 1 np (f_X7_freeBits I 1 np)) - (nI t46))) / 10 * 10) &&& 31))) ^^^ (-1)))), (0, .ref 0), (1, .int k)]) [0, 2, 3, 1, 4, 5] rfl ?_
                    rw [show gx_X8_atOnce_46 I np (r46 + 1) t46 v2 v4 = gx_X8_atOnce_46 I np r46 (t46 + 1) (v2 &&& (((((1 : Int32) <<< (((f_X7_firstAtOnce I np v2 ((f_X7_mostAtOnce I 1 np (f_X7_freeBits I 1 np)) - (nI t46))) / 100) &&& 31)) ||| ((1 : Int32) <<< ((((f_X7_firstAtOnce I np v2 ((f_X7_mostAtOnce I 1 np (f_X7_freeBits I 1 np)) - (nI t46))) / 10) - ((f_X7_firstAtOnce I np v2 ((f_X7_mostAtOnce I 1 np (f_X7_freeBits I 1 np)) - (nI t46))) / 10) / 10 * 10) &&& 31))) ||| ((1 : Int32) <<< (((f_X7_firstAtOnce I np v2 ((f_X7_mostAtOnce I 1 np (f_X7_freeBits I 1 np)) - (nI t46))) - (f_X7_firstAtOnce I np v2 ((f_X7_mostAtOnce I 1 np (f_X7_freeBits I 1 np)) - (nI t46))) / 10 * 10) &&& 31))) ^^^ (-1))) (f_X7_firstAtOnce I np v2 ((f_X7_mostAtOnce I 1 np (f_X7_freeBits I 1 np)) - (nI t46))) from by (conv => lhs; unfold gx_X8_atOnce_46); rw [if_neg h55, if_pos h74]]
                    exact ih46 (t46 + 1) (v2 &&& (((((1 : Int32) <<< (((f_X7_firstAtOnce I np v2 ((f_X7_mostAtOnce I 1 np (f_X7_freeBits I 1 np)) - (nI t46))) / 100) &&& 31)) ||| ((1 : Int32) <<< ((((f_X7_firstAtOnce I np v2 ((f_X7_mostAtOnce I 1 np (f_X7_freeBits I 1 np)) - (nI t46))) / 10) - ((f_X7_firstAtOnce I np v2 ((f_X7_mostAtOnce I 1 np (f_X7_freeBits I 1 np)) - (nI t46))) / 10) / 10 * 10) &&& 31))) ||| ((1 : Int32) <<< (((f_X7_firstAtOnce I np v2 ((f_X7_mostAtOnce I 1 np (f_X7_freeBits I 1 np)) - (nI t46))) - (f_X7_firstAtOnce I np v2 ((f_X7_mostAtOnce I 1 np (f_X7_freeBits I 1 np)) - (nI t46))) / 10 * 10) &&& 31))) ^^^ (-1))) (f_X7_firstAtOnce I np v2 ((f_X7_mostAtOnce I 1 np (f_X7_freeBits I 1 np)) - (nI t46))) (by omega)
                  · refine p_bipush (z_dec zd_X8_atOnce 44 rfl) (v := (-2)) (by decide) (n := 79) rfl ?_
                    exact p_iret (z_dec zd_X8_atOnce 45 rfl) rfl ⟨(by (conv => rhs; unfold gx_X8_atOnce_46); rw [if_neg h55, if_neg h74]), rfl, rfl⟩
          exact (by have q := (hL46 (k.toNatClampNeg + 1) 0 (f_X7_freeBits I 1 np) (-2) (by omega)); (rw [show f_X8_atOnce I np k = _ from by unfold f_X8_atOnce; rw [if_pos h2, if_neg h26, if_pos h33]]); exact q)
        · refine p_bipush (z_dec zd_X8_atOnce 22 rfl) (v := (-2)) (by decide) (n := 38) rfl ?_
          exact p_iret (z_dec zd_X8_atOnce 23 rfl) rfl ⟨(by unfold f_X8_atOnce; rw [if_pos h2, if_neg h26, if_neg h33]), rfl, rfl⟩
      · refine p_iload_n (z_dec zd_X8_atOnce 17 rfl) rfl 0 rfl (n := 30) rfl ?_
        exact p_iret (z_dec zd_X8_atOnce 18 rfl) rfl ⟨(by unfold f_X8_atOnce; rw [if_pos h2, if_pos h26]), rfl, rfl⟩
    · refine p_iconst (z_dec zd_X8_atOnce 3 rfl) (v := (-1)) (by decide) (n := 6) rfl ?_
      exact p_iret (z_dec zd_X8_atOnce 4 rfl) rfl ⟨(by unfold f_X8_atOnce; rw [if_neg h2]), rfl, rfl⟩
  exact hentry
