def gk_X7_firstAtOnce_27 (I : Nat → Nat → Int32) (np : Nat) (free : Int32) (wanted : Int32) (q4 : Nat) (q3 : Nat) (kv27 : Int32) : Nat → Nat → Int32
  | 0, t27 => kv27
  | r27 + 1, t27 => if (((((1 : Int32) <<< ((nI q3) &&& 31)) ||| ((1 : Int32) <<< ((nI q4) &&& 31))) ||| ((1 : Int32) <<< ((nI t27) &&& 31))) &&& (free ^^^ (-1))) = 0 then if (f_X7_canHold I 1 (nI q3) (nI q4) (nI t27)) = 0 then (gk_X7_firstAtOnce_27 I np free wanted q4 q3 kv27 r27 (t27 + 1)) else if (f_X7_mostAtOnce I 1 np (free &&& (((((1 : Int32) <<< ((nI q3) &&& 31)) ||| ((1 : Int32) <<< ((nI q4) &&& 31))) ||| ((1 : Int32) <<< ((nI t27) &&& 31))) ^^^ (-1)))) < (wanted - 1) then (gk_X7_firstAtOnce_27 I np free wanted q4 q3 kv27 r27 (t27 + 1)) else (((100 * (nI q3)) + (10 * (nI q4))) + (nI t27)) else (gk_X7_firstAtOnce_27 I np free wanted q4 q3 kv27 r27 (t27 + 1))
def gk_X7_firstAtOnce_15 (I : Nat → Nat → Int32) (np : Nat) (free : Int32) (wanted : Int32) (q3 : Nat) (kv15 : Int32) : Nat → Nat → Int32
  | 0, t15 => kv15
  | r15 + 1, t15 => (gk_X7_firstAtOnce_27 I np free wanted t15 q3 (gk_X7_firstAtOnce_15 I np free wanted q3 kv15 r15 (t15 + 1)) np 0)
def gk_X7_firstAtOnce_2 (I : Nat → Nat → Int32) (np : Nat) (free : Int32) (wanted : Int32) (kv2 : Int32) : Nat → Nat → Int32
  | 0, t2 => kv2
  | r2 + 1, t2 => (gk_X7_firstAtOnce_15 I np free wanted t2 (gk_X7_firstAtOnce_2 I np free wanted kv2 r2 (t2 + 1)) (np - (t2 + 1)) (t2 + 1))
def f_X7_firstAtOnce (I : Nat → Nat → Int32) (np : Nat) (free : Int32) (wanted : Int32) : Int32 := (gk_X7_firstAtOnce_2 I np free wanted (-2) np 0)
set_option maxHeartbeats 1000000 in
set_option maxRecDepth 100000 in
theorem c_X7_firstAtOnce (d : Nat) (hd : 3 ≤ d) (b : Bool) (I : Nat → Nat → Int32) (L : Nat → Nat → Int64) (np : Nat) (hnp : I 1 0 = nI np) (hn10 : np ≤ 10) (free : Int32) (wanted : Int32) : z_CT zm_X7_firstAtOnce d [.ref 1, .int free, .int wanted] SH (I, L, z_R b) 0 0 (z_ret (some (.int (f_X7_firstAtOnce I np free wanted))) (I, L, z_R b)) := by
  refine z_enter (by decide +kernel) (Nat.le_of_ble_eq_true rfl) ?_
  have hentry : PW zm_X7_firstAtOnce d 0 [(0, .ref 1), (1, .int free), (2, .int wanted)] [] SH (I, L, z_R b) 0 0 (z_ret (some (.int (f_X7_firstAtOnce I np free wanted))) (I, L, z_R b)) := by
    refine p_iconst (z_dec zd_X7_firstAtOnce 0 rfl) (v := 0) (by decide) (n := 1) rfl ?_
    refine p_istore_n (z_dec zd_X7_firstAtOnce 1 rfl) rfl (lv2 := [(3, .int 0), (0, .ref 1), (1, .int free), (2, .int wanted)]) (by decide) rfl (n := 2) rfl ?_
    have hL2 : ∀ (r2 t2 : Nat), t2 + r2 = np + 0 → PW zm_X7_firstAtOnce d 120 [(0, .ref 1), (1, .int free), (2, .int wanted)] [] SH (I, L, z_R b) 0 0 (z_ret (some (.int (-2))) (I, L, z_R b)) → PW zm_X7_firstAtOnce d 2 [(3, .int (nI t2)), (0, .ref 1), (1, .int free), (2, .int wanted)] [] SH (I, L, z_R b) 0 0 (z_ret (some (.int (gk_X7_firstAtOnce_2 I np free wanted (-2) r2 t2))) (I, L, z_R b)) := by
      intro r2
      induction r2 with
      | zero =>
        intro t2 ht2 hk2
        refine p_iload_n (z_dec zd_X7_firstAtOnce 2 rfl) rfl 0 rfl (n := 3) rfl ?_
        refine p_aload_n (z_dec zd_X7_firstAtOnce 3 rfl) rfl 1 rfl (n := 4) rfl ?_
        refine q_getI (z_dec zd_X7_firstAtOnce 4 rfl) zf_X7_9 (by decide) rfl (v := (nI np)) hnp (n := 7) rfl ?_
        refine p_icmp_ge (z_dec zd_X7_firstAtOnce 5 rfl) (t := 120) (by decide) (n := 10) rfl (fun h7 => ?_) (fun h7 => ?_)
        · refine z_sub (lv' := [(0, .ref 1), (1, .int free), (2, .int wanted)]) [1, 2, 3] rfl ?_
          rw [show (gk_X7_firstAtOnce_2 I np free wanted (-2) 0 t2) = (-2) from by rfl]
          exact hk2
        · exact absurd (z_nge (a := np) h7) (by omega)
      | succ r2 ih2 =>
        intro t2 ht2 hk2
        refine p_iload_n (z_dec zd_X7_firstAtOnce 2 rfl) rfl 0 rfl (n := 3) rfl ?_
        refine p_aload_n (z_dec zd_X7_firstAtOnce 3 rfl) rfl 1 rfl (n := 4) rfl ?_
        refine q_getI (z_dec zd_X7_firstAtOnce 4 rfl) zf_X7_9 (by decide) rfl (v := (nI np)) hnp (n := 7) rfl ?_
        refine p_icmp_ge (z_dec zd_X7_firstAtOnce 5 rfl) (t := 120) (by decide) (n := 10) rfl (fun h7 => ?_) (fun h7 => ?_)
        · exact absurd (z_ge (a := np) h7) (by omega)
        · have hx2 : t2 < np + 0 := by omega
          refine p_iload_n (z_dec zd_X7_firstAtOnce 6 rfl) rfl 0 rfl (n := 11) rfl ?_
          refine p_iconst (z_dec zd_X7_firstAtOnce 7 rfl) (v := 1) (by decide) (n := 12) rfl ?_
          refine p_iadd (z_dec zd_X7_firstAtOnce 8 rfl) (n := 13) rfl ?_
          refine z_lv rfl (show _ = [.int (nI (t2 + 1))] from (by rw [nI_1])) rfl ?_
          refine p_istore (z_dec zd_X7_firstAtOnce 9 rfl) (lv2 := [(4, .int (nI (t2 + 1))), (3, .int (nI t2)), (0, .ref 1), (1, .int free), (2, .int wanted)]) (by decide) rfl (n := 15) rfl ?_
          have hL15 : ∀ (r15 t15 : Nat), t15 + r15 = (np - (t2 + 1)) + (t2 + 1) → PW zm_X7_firstAtOnce d 114 [(3, .int (nI t2)), (0, .ref 1), (1, .int free), (2, .int wanted)] [] SH (I, L, z_R b) 0 0 (z_ret (some (.int (gk_X7_firstAtOnce_2 I np free wanted (-2) r2 (t2 + 1)))) (I, L, z_R b)) → PW zm_X7_firstAtOnce d 15 [(4, .int (nI t15)), (3, .int (nI t2)), (0, .ref 1), (1, .int free), (2, .int wanted)] [] SH (I, L, z_R b) 0 0 (z_ret (some (.int (gk_X7_firstAtOnce_15 I np free wanted t2 (gk_X7_firstAtOnce_2 I np free wanted (-2) r2 (t2 + 1)) r15 t15))) (I, L, z_R b)) := by
            intro r15
            induction r15 with
            | zero =>
              intro t15 ht15 hk15
              refine p_iload (z_dec zd_X7_firstAtOnce 10 rfl) 0 rfl (n := 17) rfl ?_
              refine p_aload_n (z_dec zd_X7_firstAtOnce 11 rfl) rfl 2 rfl (n := 18) rfl ?_
              refine q_getI (z_dec zd_X7_firstAtOnce 12 rfl) zf_X7_9 (by decide) rfl (v := (nI np)) hnp (n := 21) rfl ?_
              refine p_icmp_ge (z_dec zd_X7_firstAtOnce 13 rfl) (t := 114) (by decide) (n := 24) rfl (fun h21 => ?_) (fun h21 => ?_)
              · refine z_sub (lv' := [(3, .int (nI t2)), (0, .ref 1), (1, .int free), (2, .int wanted)]) [1, 2, 3, 4] rfl ?_
                rw [show (gk_X7_firstAtOnce_15 I np free wanted t2 (gk_X7_firstAtOnce_2 I np free wanted (-2) r2 (t2 + 1)) 0 t15) = (gk_X7_firstAtOnce_2 I np free wanted (-2) r2 (t2 + 1)) from by rfl]
                exact hk15
              · exact absurd (z_nge (a := np) h21) (by omega)
            | succ r15 ih15 =>
              intro t15 ht15 hk15
              refine p_iload (z_dec zd_X7_firstAtOnce 10 rfl) 0 rfl (n := 17) rfl ?_
              refine p_aload_n (z_dec zd_X7_firstAtOnce 11 rfl) rfl 2 rfl (n := 18) rfl ?_
              refine q_getI (z_dec zd_X7_firstAtOnce 12 rfl) zf_X7_9 (by decide) rfl (v := (nI np)) hnp (n := 21) rfl ?_
              refine p_icmp_ge (z_dec zd_X7_firstAtOnce 13 rfl) (t := 114) (by decide) (n := 24) rfl (fun h21 => ?_) (fun h21 => ?_)
              · exact absurd (z_ge (a := np) h21) (by omega)
              · have hx15 : t15 < (np - (t2 + 1)) + (t2 + 1) := by omega
                refine p_iconst (z_dec zd_X7_firstAtOnce 14 rfl) (v := 0) (by decide) (n := 25) rfl ?_
                refine p_istore (z_dec zd_X7_firstAtOnce 15 rfl) (lv2 := [(5, .int 0), (4, .int (nI t15)), (3, .int (nI t2)), (0, .ref 1), (1, .int free), (2, .int wanted)]) (by decide) rfl (n := 27) rfl ?_
                have hL27 : ∀ (r27 t27 : Nat), t27 + r27 = np + 0 → PW zm_X7_firstAtOnce d 108 [(4, .int (nI t15)), (3, .int (nI t2)), (0, .ref 1), (1, .int free), (2, .int wanted)] [] SH (I, L, z_R b) 0 0 (z_ret (some (.int (gk_X7_firstAtOnce_15 I np free wanted t2 (gk_X7_firstAtOnce_2 I np free wanted (-2) r2 (t2 + 1)) r15 (t15 + 1)))) (I, L, z_R b)) → PW zm_X7_firstAtOnce d 27 [(5, .int (nI t27)), (4, .int (nI t15)), (3, .int (nI t2)), (0, .ref 1), (1, .int free), (2, .int wanted)] [] SH (I, L, z_R b) 0 0 (z_ret (some (.int (gk_X7_firstAtOnce_27 I np free wanted t15 t2 (gk_X7_firstAtOnce_15 I np free wanted t2 (gk_X7_firstAtOnce_2 I np free wanted (-2) r2 (t2 + 1)) r15 (t15 + 1)) r27 t27))) (I, L, z_R b)) := by
                  intro r27
                  induction r27 with
                  | zero =>
                    intro t27 ht27 hk27
                    refine p_iload (z_dec zd_X7_firstAtOnce 16 rfl) 0 rfl (n := 29) rfl ?_
                    refine p_aload_n (z_dec zd_X7_firstAtOnce 17 rfl) rfl 3 rfl (n := 30) rfl ?_
                    refine q_getI (z_dec zd_X7_firstAtOnce 18 rfl) zf_X7_9 (by decide) rfl (v := (nI np)) hnp (n := 33) rfl ?_
                    refine p_icmp_ge (z_dec zd_X7_firstAtOnce 19 rfl) (t := 108) (by decide) (n := 36) rfl (fun h33 => ?_) (fun h33 => ?_)
                    · refine z_sub (lv' := [(4, .int (nI t15)), (3, .int (nI t2)), (0, .ref 1), (1, .int free), (2, .int wanted)]) [1, 2, 3, 4, 5] rfl ?_
                      rw [show (gk_X7_firstAtOnce_27 I np free wanted t15 t2 (gk_X7_firstAtOnce_15 I np free wanted t2 (gk_X7_firstAtOnce_2 I np free wanted (-2) r2 (t2 + 1)) r15 (t15 + 1)) 0 t27) = (gk_X7_firstAtOnce_15 I np free wanted t2 (gk_X7_firstAtOnce_2 I np free wanted (-2) r2 (t2 + 1)) r15 (t15 + 1)) from by rfl]
                      exact hk27
                    · exact absurd (z_nge (a := np) h33) (by omega)
                  | succ r27 ih27 =>
                    intro t27 ht27 hk27
                    refine p_iload (z_dec zd_X7_firstAtOnce 16 rfl) 0 rfl (n := 29) rfl ?_
                    refine p_aload_n (z_dec zd_X7_firstAtOnce 17 rfl) rfl 3 rfl (n := 30) rfl ?_
                    refine q_getI (z_dec zd_X7_firstAtOnce 18 rfl) zf_X7_9 (by decide) rfl (v := (nI np)) hnp (n := 33) rfl ?_
                    refine p_icmp_ge (z_dec zd_X7_firstAtOnce 19 rfl) (t := 108) (by decide) (n := 36) rfl (fun h33 => ?_) (fun h33 => ?_)
                    · exact absurd (z_ge (a := np) h33) (by omega)
                    · have hx27 : t27 < np + 0 := by omega
                      refine p_iconst (z_dec zd_X7_firstAtOnce 20 rfl) (v := 1) (by decide) (n := 37) rfl ?_
                      refine p_iload_n (z_dec zd_X7_firstAtOnce 21 rfl) rfl 2 rfl (n := 38) rfl ?_
                      refine p_ishl (z_dec zd_X7_firstAtOnce 22 rfl) (n := 39) rfl ?_
                      refine p_iconst (z_dec zd_X7_firstAtOnce 23 rfl) (v := 1) (by decide) (n := 40) rfl ?_
                      refine p_iload (z_dec zd_X7_firstAtOnce 24 rfl) 1 rfl (n := 42) rfl ?_
                      refine p_ishl (z_dec zd_X7_firstAtOnce 25 rfl) (n := 43) rfl ?_
                      refine p_ior (z_dec zd_X7_firstAtOnce 26 rfl) (n := 44) rfl ?_
                      refine p_iconst (z_dec zd_X7_firstAtOnce 27 rfl) (v := 1) (by decide) (n := 45) rfl ?_
                      refine p_iload (z_dec zd_X7_firstAtOnce 28 rfl) 0 rfl (n := 47) rfl ?_
                      refine p_ishl (z_dec zd_X7_firstAtOnce 29 rfl) (n := 48) rfl ?_
                      refine p_ior (z_dec zd_X7_firstAtOnce 30 rfl) (n := 49) rfl ?_
                      refine p_istore (z_dec zd_X7_firstAtOnce 31 rfl) (lv2 := [(6, .int ((((1 : Int32) <<< ((nI t2) &&& 31)) ||| ((1 : Int32) <<< ((nI t15) &&& 31))) ||| ((1 : Int32) <<< ((nI t27) &&& 31)))), (5, .int (nI t27)), (4, .int (nI t15)), (3, .int (nI t2)), (0, .ref 1), (1, .int free), (2, .int wanted)]) (by decide) rfl (n := 51) rfl ?_
                      refine p_iload (z_dec zd_X7_firstAtOnce 32 rfl) 0 rfl (n := 53) rfl ?_
                      refine p_iload_n (z_dec zd_X7_firstAtOnce 33 rfl) rfl 5 rfl (n := 54) rfl ?_
                      refine p_iconst (z_dec zd_X7_firstAtOnce 34 rfl) (v := (-1)) (by decide) (n := 55) rfl ?_
                      refine p_ixor (z_dec zd_X7_firstAtOnce 35 rfl) (n := 56) rfl ?_
                      refine p_iand (z_dec zd_X7_firstAtOnce 36 rfl) (n := 57) rfl ?_
                      refine p_if_ne (z_dec zd_X7_firstAtOnce 37 rfl) (t := 102) (by decide) (n := 60) rfl (fun h57 => ?_) (fun h57 => ?_)
                      · refine p_iinc (z_dec zd_X7_firstAtOnce 65 rfl) 1 rfl (v := (nI (t27 + 1))) (nI_1 _) (lv2 := [(5, .int (nI (t27 + 1))), (6, .int ((((1 : Int32) <<< ((nI t2) &&& 31)) ||| ((1 : Int32) <<< ((nI t15) &&& 31))) ||| ((1 : Int32) <<< ((nI t27) &&& 31)))), (4, .int (nI t15)), (3, .int (nI t2)), (0, .ref 1), (1, .int free), (2, .int wanted)]) (by decide) rfl (n := 105) rfl ?_
                        refine p_goto (z_dec zd_X7_firstAtOnce 66 rfl) (t := 27) (by decide) ?_
                        refine z_sub (lv' := [(5, .int (nI (t27 + 1))), (4, .int (nI t15)), (3, .int (nI t2)), (0, .ref 1), (1, .int free), (2, .int wanted)]) [0, 2, 3, 4, 5, 6] rfl ?_
                        rw [show (gk_X7_firstAtOnce_27 I np free wanted t15 t2 (gk_X7_firstAtOnce_15 I np free wanted t2 (gk_X7_firstAtOnce_2 I np free wanted (-2) r2 (t2 + 1)) r15 (t15 + 1)) (r27 + 1) t27) = (gk_X7_firstAtOnce_27 I np free wanted t15 t2 (gk_X7_firstAtOnce_15 I np free wanted t2 (gk_X7_firstAtOnce_2 I np free wanted (-2) r2 (t2 + 1)) r15 (t15 + 1)) r27 (t27 + 1)) from by (conv => lhs; unfold gk_X7_firstAtOnce_27); rw [if_neg h57]]
                        exact ih27 (t27 + 1) (by omega) hk27
                      · refine p_aload_n (z_dec zd_X7_firstAtOnce 38 rfl) rfl 4 rfl (n := 61) rfl ?_
                        refine p_iload_n (z_dec zd_X7_firstAtOnce 39 rfl) rfl 3 rfl (n := 62) rfl ?_
                        refine p_iload (z_dec zd_X7_firstAtOnce 40 rfl) 2 rfl (n := 64) rfl ?_
                        refine p_iload (z_dec zd_X7_firstAtOnce 41 rfl) 1 rfl (n := 66) rfl ?_
                        refine q_callV (As := [.int (nI t2), .int (nI t15), .int (nI t27)]) (rest := []) (z_dec zd_X7_firstAtOnce 42 rfl) zk_X7_72 zv_X7_canHold (c_X7_canHold (d - 1) (by omega) b I L 1 (z_Yd1 b) np hnp hn10 (nI t2) (nI t15) (nI t27)) rfl ⟨_, _, rfl⟩ rfl rfl (Nat.le_of_ble_eq_true rfl) (by omega) (n := 69) rfl ?_
                        show PW zm_X7_firstAtOnce d 69 [(6, .int ((((1 : Int32) <<< ((nI t2) &&& 31)) ||| ((1 : Int32) <<< ((nI t15) &&& 31))) ||| ((1 : Int32) <<< ((nI t27) &&& 31)))), (5, .int (nI t27)), (4, .int (nI t15)), (3, .int (nI t2)), (0, .ref 1), (1, .int free), (2, .int wanted)] [.int (f_X7_canHold I 1 (nI t2) (nI t15) (nI t27))] SH (I, L, z_R b) 0 0 _
                        refine p_if_eq (z_dec zd_X7_firstAtOnce 43 rfl) (t := 102) (by decide) (n := 72) rfl (fun h69 => ?_) (fun h69 => ?_)
                        · refine p_iinc (z_dec zd_X7_firstAtOnce 65 rfl) 1 rfl (v := (nI (t27 + 1))) (nI_1 _) (lv2 := [(5, .int (nI (t27 + 1))), (6, .int ((((1 : Int32) <<< ((nI t2) &&& 31)) ||| ((1 : Int32) <<< ((nI t15) &&& 31))) ||| ((1 : Int32) <<< ((nI t27) &&& 31)))), (4, .int (nI t15)), (3, .int (nI t2)), (0, .ref 1), (1, .int free), (2, .int wanted)]) (by decide) rfl (n := 105) rfl ?_
                          refine p_goto (z_dec zd_X7_firstAtOnce 66 rfl) (t := 27) (by decide) ?_
                          refine z_sub (lv' := [(5, .int (nI (t27 + 1))), (4, .int (nI t15)), (3, .int (nI t2)), (0, .ref 1), (1, .int free), (2, .int wanted)]) [0, 2, 3, 4, 5, 6] rfl ?_
                          rw [show (gk_X7_firstAtOnce_27 I np free wanted t15 t2 (gk_X7_firstAtOnce_15 I np free wanted t2 (gk_X7_firstAtOnce_2 I np free wanted (-2) r2 (t2 + 1)) r15 (t15 + 1)) (r27 + 1) t27) = (gk_X7_firstAtOnce_27 I np free wanted t15 t2 (gk_X7_firstAtOnce_15 I np free wanted t2 (gk_X7_firstAtOnce_2 I np free wanted (-2) r2 (t2 + 1)) r15 (t15 + 1)) r27 (t27 + 1)) from by (conv => lhs; unfold gk_X7_firstAtOnce_27); rw [if_pos h57, if_pos h69]]
                          exact ih27 (t27 + 1) (by omega) hk27
                        · refine p_aload_n (z_dec zd_X7_firstAtOnce 44 rfl) rfl 4 rfl (n := 73) rfl ?_
                          refine p_iload_n (z_dec zd_X7_firstAtOnce 45 rfl) rfl 5 rfl (n := 74) rfl ?_
                          refine p_iload (z_dec zd_X7_firstAtOnce 46 rfl) 0 rfl (n := 76) rfl ?_
                          refine p_iconst (z_dec zd_X7_firstAtOnce 47 rfl) (v := (-1)) (by decide) (n := 77) rfl ?_
                          refine p_ixor (z_dec zd_X7_firstAtOnce 48 rfl) (n := 78) rfl ?_
                          refine p_iand (z_dec zd_X7_firstAtOnce 49 rfl) (n := 79) rfl ?_
                          refine q_callV (As := [.int (free &&& (((((1 : Int32) <<< ((nI t2) &&& 31)) ||| ((1 : Int32) <<< ((nI t15) &&& 31))) ||| ((1 : Int32) <<< ((nI t27) &&& 31))) ^^^ (-1)))]) (rest := []) (z_dec zd_X7_firstAtOnce 50 rfl) zk_X7_75 zv_X7_mostAtOnce (c_X7_mostAtOnce (d - 1) (by omega) b I L 1 (z_Yd1 b) np hnp hn10 (free &&& (((((1 : Int32) <<< ((nI t2) &&& 31)) ||| ((1 : Int32) <<< ((nI t15) &&& 31))) ||| ((1 : Int32) <<< ((nI t27) &&& 31))) ^^^ (-1)))) rfl ⟨_, _, rfl⟩ rfl rfl (Nat.le_of_ble_eq_true rfl) (by omega) (n := 82) rfl ?_
                          show PW zm_X7_firstAtOnce d 82 [(6, .int ((((1 : Int32) <<< ((nI t2) &&& 31)) ||| ((1 : Int32) <<< ((nI t15) &&& 31))) ||| ((1 : Int32) <<< ((nI t27) &&& 31)))), (5, .int (nI t27)), (4, .int (nI t15)), (3, .int (nI t2)), (0, .ref 1), (1, .int free), (2, .int wanted)] [.int (f_X7_mostAtOnce I 1 np (free &&& (((((1 : Int32) <<< ((nI t2) &&& 31)) ||| ((1 : Int32) <<< ((nI t15) &&& 31))) ||| ((1 : Int32) <<< ((nI t27) &&& 31))) ^^^ (-1))))] SH (I, L, z_R b) 0 0 _
                          refine p_iload_n (z_dec zd_X7_firstAtOnce 51 rfl) rfl 6 rfl (n := 83) rfl ?_
                          refine p_iconst (z_dec zd_X7_firstAtOnce 52 rfl) (v := 1) (by decide) (n := 84) rfl ?_
                          refine p_isub (z_dec zd_X7_firstAtOnce 53 rfl) (n := 85) rfl ?_
                          refine p_icmp_lt (z_dec zd_X7_firstAtOnce 54 rfl) (t := 102) (by decide) (n := 88) rfl (fun h85 => ?_) (fun h85 => ?_)
                          · refine p_iinc (z_dec zd_X7_firstAtOnce 65 rfl) 1 rfl (v := (nI (t27 + 1))) (nI_1 _) (lv2 := [(5, .int (nI (t27 + 1))), (6, .int ((((1 : Int32) <<< ((nI t2) &&& 31)) ||| ((1 : Int32) <<< ((nI t15) &&& 31))) ||| ((1 : Int32) <<< ((nI t27) &&& 31)))), (4, .int (nI t15)), (3, .int (nI t2)), (0, .ref 1), (1, .int free), (2, .int wanted)]) (by decide) rfl (n := 105) rfl ?_
                            refine p_goto (z_dec zd_X7_firstAtOnce 66 rfl) (t := 27) (by decide) ?_
                            refine z_sub (lv' := [(5, .int (nI (t27 + 1))), (4, .int (nI t15)), (3, .int (nI t2)), (0, .ref 1), (1, .int free), (2, .int wanted)]) [0, 2, 3, 4, 5, 6] rfl ?_
                            rw [show (gk_X7_firstAtOnce_27 I np free wanted t15 t2 (gk_X7_firstAtOnce_15 I np free wanted t2 (gk_X7_firstAtOnce_2 I np free wanted (-2) r2 (t2 + 1)) r15 (t15 + 1)) (r27 + 1) t27) = (gk_X7_firstAtOnce_27 I np free wanted t15 t2 (gk_X7_firstAtOnce_15 I np free wanted t2 (gk_X7_firstAtOnce_2 I np free wanted (-2) r2 (t2 + 1)) r15 (t15 + 1)) r27 (t27 + 1)) from by (conv => lhs; unfold gk_X7_firstAtOnce_27); rw [if_pos h57, if_neg h69, if_pos h85]]
                            exact ih27 (t27 + 1) (by omega) hk27
                          · refine p_bipush (z_dec zd_X7_firstAtOnce 55 rfl) (v := 100) (by decide) (n := 90) rfl ?_
                            refine p_iload_n (z_dec zd_X7_firstAtOnce 56 rfl) rfl 3 rfl (n := 91) rfl ?_
                            refine p_imul (z_dec zd_X7_firstAtOnce 57 rfl) (n := 92) rfl ?_
                            refine p_bipush (z_dec zd_X7_firstAtOnce 58 rfl) (v := 10) (by decide) (n := 94) rfl ?_
                            refine p_iload (z_dec zd_X7_firstAtOnce 59 rfl) 2 rfl (n := 96) rfl ?_
                            refine p_imul (z_dec zd_X7_firstAtOnce 60 rfl) (n := 97) rfl ?_
                            refine p_iadd (z_dec zd_X7_firstAtOnce 61 rfl) (n := 98) rfl ?_
                            refine p_iload (z_dec zd_X7_firstAtOnce 62 rfl) 1 rfl (n := 100) rfl ?_
                            refine p_iadd (z_dec zd_X7_firstAtOnce 63 rfl) (n := 101) rfl ?_
                            exact p_iret (z_dec zd_X7_firstAtOnce 64 rfl) rfl ⟨(by (conv => rhs; unfold gk_X7_firstAtOnce_27); rw [if_pos h57, if_neg h69, if_neg h85]), rfl, rfl⟩
                rw [show (gk_X7_firstAtOnce_15 I np free wanted t2 (gk_X7_firstAtOnce_2 I np free wanted (-2) r2 (t2 + 1)) (r15 + 1) t15) = (gk_X7_firstAtOnce_27 I np free wanted t15 t2 (gk_X7_firstAtOnce_15 I np free wanted t2 (gk_X7_firstAtOnce_2 I np free wanted (-2) r2 (t2 + 1)) r15 (t15 + 1)) np 0) from by rfl]
                refine hL27 np 0 (by omega) ?_
                refine p_iinc (z_dec zd_X7_firstAtOnce 67 rfl) 0 rfl (v := (nI (t15 + 1))) (nI_1 _) (lv2 := [(4, .int (nI (t15 + 1))), (3, .int (nI t2)), (0, .ref 1), (1, .int free), (2, .int wanted)]) (by decide) rfl (n := 111) rfl ?_
                refine p_goto (z_dec zd_X7_firstAtOnce 68 rfl) (t := 15) (by decide) ?_
                exact ih15 (t15 + 1) (by omega) hk15
          rw [show (gk_X7_firstAtOnce_2 I np free wanted (-2) (r2 + 1) t2) = (gk_X7_firstAtOnce_15 I np free wanted t2 (gk_X7_firstAtOnce_2 I np free wanted (-2) r2 (t2 + 1)) (np - (t2 + 1)) (t2 + 1)) from by rfl]
          refine hL15 (np - (t2 + 1)) (t2 + 1) (by omega) ?_
          refine p_iinc (z_dec zd_X7_firstAtOnce 69 rfl) 0 rfl (v := (nI (t2 + 1))) (nI_1 _) (lv2 := [(3, .int (nI (t2 + 1))), (0, .ref 1), (1, .int free), (2, .int wanted)]) (by decide) rfl (n := 117) rfl ?_
          refine p_goto (z_dec zd_X7_firstAtOnce 70 rfl) (t := 2) (by decide) ?_
          exact ih2 (t2 + 1) (by omega) hk2
    rw [show (f_X7_firstAtOnce I np free wanted) = (gk_X7_firstAtOnce_2 I np free wanted (-2) np 0) from by rfl]
    refine hL2 np 0 (by omega) ?_
    refine p_bipush (z_dec zd_X7_firstAtOnce 71 rfl) (v := (-2)) (by decide) (n := 122) rfl ?_
    exact p_iret (z_dec zd_X7_firstAtOnce 72 rfl) rfl ⟨rfl, rfl, rfl⟩
  exact hentry
