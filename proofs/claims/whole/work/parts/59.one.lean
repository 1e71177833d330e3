theorem z_nmo {c : Int32} (h : ¬ f_X9_nameOf c < 0) : f_X9_nameOf c = nI (f_X9_nameOf c).toNatClampNeg ∧ (f_X9_nameOf c).toNatClampNeg < 6 := by
  have key : f_X9_nameOf c = -1 ∨ f_X9_nameOf c = 0 ∨ f_X9_nameOf c = 1 ∨ f_X9_nameOf c = 2 ∨ f_X9_nameOf c = 3 ∨ f_X9_nameOf c = 4 ∨ f_X9_nameOf c = 5 := by
    unfold f_X9_nameOf
    generalize ((-1) : Int32) = w
    (repeat' split) <;> simp
  rcases key with q | q | q | q | q | q | q
  · rw [q] at h; exact absurd (by decide) h
  all_goals (rw [q]; exact ⟨rfl, by decide⟩)
theorem z_op1 {I : Nat → Nat → Int32} (h : z_Q I) (h6 : ¬ I 54 15 = 6) : z_K I (z_up I 54 15 (I 54 15 + 1)) ∧ ((z_up I 54 15 (I 54 15 + 1)) 54 15).toNatClampNeg = (I 54 15).toNatClampNeg + 1 := by
  obtain ⟨a, c, e, d1, d2⟩ := h
  have hl : (I 54 15).toNatClampNeg < 6 := by
    rw [d1] at h6
    exact z_neN (N := 6) d2 (by omega) h6
  have e15 : (z_up I 54 15 (I 54 15 + 1)) 54 15 = nI ((I 54 15).toNatClampNeg + 1) := by
    rw [z_up_s, d1, nI_1, nI_clamp (by omega)]
  have e15n : ((z_up I 54 15 (I 54 15 + 1)) 54 15).toNatClampNeg = (I 54 15).toNatClampNeg + 1 := by rw [e15, nI_clamp (by omega)]
  refine ⟨⟨⟨a, c, e, ?_, ?_⟩, rfl, Nat.le_refl _, ?_⟩, e15n⟩
  · rw [e15n, e15]
  · rw [e15n]; omega
  · rw [e15n]; omega
theorem z_opn {I M : Nat → Nat → Int32} {n : Nat} (h : z_K I M) (g : (M 54 15).toNatClampNeg = (I 54 15).toNatClampNeg + 1) (hq : (I 54 15).toNatClampNeg ≤ 6) (hn : 7 - (I 54 15).toNatClampNeg < n + 1) : 7 - (M 54 15).toNatClampNeg < n := by
  rw [g]
  omega
theorem z_nm0 {I : Nat → Nat → Int32} (h : ¬ f_X9_nameOf (f_X9_byteAt I) < 0) : ¬ z_by I = 0 := by
  intro q
  unfold z_by at q
  rw [q] at h
  exact h (by decide)
def gx_X9_one_176  : Nat → Nat → (Int32) → (Nat → Nat → Int32) → Int32 × (Nat → Nat → Int32)
  | 0, t176, v3, Iv => if (nI t176) = 0 then ((f_X9_wrong Iv), (m_X9_wrong Iv)) else (v3, Iv)
  | r176 + 1, t176, v3, Iv => if (f_X9_byteAt Iv) < 48 then if (nI t176) = 0 then ((f_X9_wrong Iv), (m_X9_wrong Iv)) else (v3, Iv) else if 57 < (f_X9_byteAt Iv) then if (nI t176) = 0 then ((f_X9_wrong Iv), (m_X9_wrong Iv)) else (v3, Iv) else gx_X9_one_176 r176 (t176 + 1) (((10 * v3) + (f_X9_byteAt Iv)) - 48) (z_up Iv 54 12 ((Iv 54 12) + 1))
def f_X9_one (I : Nat → Nat → Int32) (FO : (Nat → Nat → Int32) → Int32 × (Nat → Nat → Int32)) (FE : (Nat → Nat → Int32) → Int32 × (Nat → Nat → Int32)) : Int32 := if (I 54 14) < 0 then if (f_X9_byteAt I) = 33 then if (I 54 15) = 6 then (f_X9_wrong I) else if (FO (z_up (z_up I 54 15 ((I 54 15) + 1)) 54 12 ((I 54 12) + 1))).1 = 0 then 1 else 0 else if (f_X9_byteAt I) = 45 then if (I 54 15) = 6 then (f_X9_wrong I) else (-((FO (z_up (z_up I 54 15 ((I 54 15) + 1)) 54 12 ((I 54 12) + 1))).1)) else if (f_X9_byteAt I) = 40 then if (I 54 15) = 6 then (f_X9_wrong I) else if (f_X9_takes ((FE (z_up (z_up I 54 15 ((I 54 15) + 1)) 54 12 ((I 54 12) + 1))).2) 41) = 0 then (f_X9_wrong (m_X9_takes ((FE (z_up (z_up I 54 15 ((I 54 15) + 1)) 54 12 ((I 54 12) + 1))).2) 41)) else (FE (z_up (z_up I 54 15 ((I 54 15) + 1)) 54 12 ((I 54 12) + 1))).1 else if (f_X9_nameOf (f_X9_byteAt I)) < 0 then (gx_X9_one_176 4 0 0 I).1 else (I 61 ((f_X9_nameOf (f_X9_byteAt I)).toNatClampNeg)) else 0
def m_X9_one (I : Nat → Nat → Int32) (FO : (Nat → Nat → Int32) → Int32 × (Nat → Nat → Int32)) (FE : (Nat → Nat → Int32) → Int32 × (Nat → Nat → Int32)) : Nat → Nat → Int32 := if (I 54 14) < 0 then if (f_X9_byteAt I) = 33 then if (I 54 15) = 6 then (m_X9_wrong I) else if (FO (z_up (z_up I 54 15 ((I 54 15) + 1)) 54 12 ((I 54 12) + 1))).1 = 0 then (z_up (FO (z_up (z_up I 54 15 ((I 54 15) + 1)) 54 12 ((I 54 12) + 1))).2 54 15 (((FO (z_up (z_up I 54 15 ((I 54 15) + 1)) 54 12 ((I 54 12) + 1))).2 54 15) - 1)) else (z_up (FO (z_up (z_up I 54 15 ((I 54 15) + 1)) 54 12 ((I 54 12) + 1))).2 54 15 (((FO (z_up (z_up I 54 15 ((I 54 15) + 1)) 54 12 ((I 54 12) + 1))).2 54 15) - 1)) else if (f_X9_byteAt I) = 45 then if (I 54 15) = 6 then (m_X9_wrong I) else (z_up (FO (z_up (z_up I 54 15 ((I 54 15) + 1)) 54 12 ((I 54 12) + 1))).2 54 15 (((FO (z_up (z_up I 54 15 ((I 54 15) + 1)) 54 12 ((I 54 12) + 1))).2 54 15) - 1)) else if (f_X9_byteAt I) = 40 then if (I 54 15) = 6 then (m_X9_wrong I) else if (f_X9_takes ((FE (z_up (z_up I 54 15 ((I 54 15) + 1)) 54 12 ((I 54 12) + 1))).2) 41) = 0 then (m_X9_wrong (m_X9_takes ((FE (z_up (z_up I 54 15 ((I 54 15) + 1)) 54 12 ((I 54 12) + 1))).2) 41)) else (z_up (m_X9_takes ((FE (z_up (z_up I 54 15 ((I 54 15) + 1)) 54 12 ((I 54 12) + 1))).2) 41) 54 15 (((m_X9_takes ((FE (z_up (z_up I 54 15 ((I 54 15) + 1)) 54 12 ((I 54 12) + 1))).2) 41) 54 15) - 1)) else if (f_X9_nameOf (f_X9_byteAt I)) < 0 then (gx_X9_one_176 4 0 0 I).2 else (z_up I 54 12 ((I 54 12) + 1)) else I
set_option maxHeartbeats 4000000 in
set_option maxRecDepth 100000 in
theorem c_X9_one (d : Nat) (b : Bool) (I : Nat → Nat → Int32) (L : Nat → Nat → Int64) (hQ : z_Q I) (e n : Nat) (FO : (Nat → Nat → Int32) → Int32 × (Nat → Nat → Int32)) (hFO : ∀ (d : Nat) (J : Nat → Nat → Int32), e ≤ d → z_Q J → 7 - (J 54 15).toNatClampNeg < n → z_CT zm_X9_one d [.ref 54] SH (J, L, z_R b) 0 0 (z_ret (some (.int (FO J).1)) ((FO J).2, L, z_R b))) (hKO : z_FK FO) (FE : (Nat → Nat → Int32) → Int32 × (Nat → Nat → Int32)) (hFE : ∀ (d : Nat) (J : Nat → Nat → Int32), e + 5 ≤ d → z_Q J → 7 - (J 54 15).toNatClampNeg < n → z_CT zm_X9_either d [.ref 54] SH (J, L, z_R b) 0 0 (z_ret (some (.int (FE J).1)) ((FE J).2, L, z_R b))) (hKE : z_FK FE) (hn : 7 - (I 54 15).toNatClampNeg < n + 1) (hd : e + 6 ≤ d) : z_CT zm_X9_one d [.ref 54] SH (I, L, z_R b) 0 0 (z_ret (some (.int (f_X9_one I FO FE))) ((m_X9_one I FO FE), L, z_R b)) := by
  refine z_enter (by decide +kernel) (Nat.le_of_ble_eq_true rfl) ?_
  have hentry : PW zm_X9_one d 0 [(0, .ref 54)] [] SH (I, L, z_R b) 0 0 (z_ret (some (.int (f_X9_one I FO FE))) ((m_X9_one I FO FE), L, z_R b)) := by
    refine p_aload_n (z_dec zd_X9_one 0 rfl) rfl 0 rfl (n := 1) rfl ?_
    refine q_getI (z_dec zd_X9_one 1 rfl) zf_X9_153 (by decide) rfl (v := (I 54 14)) rfl (n := 4) rfl ?_
    refine p_if_lt (z_dec zd_X9_one 2 rfl) (t := 9) (by decide) (n := 7) rfl (fun h4 => ?_) (fun h4 => ?_)
    · refine p_aload_n (z_dec zd_X9_one 5 rfl) rfl 0 rfl (n := 10) rfl ?_
      refine q_callV (As := []) (rest := []) (z_dec zd_X9_one 6 rfl) zk_X9_156 zv_X9_byteAt (c_X9_byteAt (d - 1) (by omega) b I L ((z_K_rf hQ).1)) rfl ⟨_, _, rfl⟩ rfl rfl (Nat.le_of_ble_eq_true rfl) (by omega) (n := 13) rfl ?_
      show PW zm_X9_one d 13 [(0, .ref 54)] [.int (f_X9_byteAt I)] SH (I, L, z_R b) 0 0 _
      refine p_istore_n (z_dec zd_X9_one 7 rfl) rfl (lv2 := [(1, .int (f_X9_byteAt I)), (0, .ref 54)]) (by decide) rfl (n := 14) rfl ?_
      refine p_iload_n (z_dec zd_X9_one 8 rfl) rfl 0 rfl (n := 15) rfl ?_
      refine p_bipush (z_dec zd_X9_one 9 rfl) (v := 33) (by decide) (n := 17) rfl ?_
      refine p_icmp_eq (z_dec zd_X9_one 10 rfl) (t := 32) (by decide) (n := 20) rfl (fun h17 => ?_) (fun h17 => ?_)
      · refine p_aload_n (z_dec zd_X9_one 17 rfl) rfl 1 rfl (n := 33) rfl ?_
        refine q_getI (z_dec zd_X9_one 18 rfl) zf_X9_178 (by decide) rfl (v := (I 54 15)) rfl (n := 36) rfl ?_
        refine p_bipush (z_dec zd_X9_one 19 rfl) (v := 6) (by decide) (n := 38) rfl ?_
        refine p_icmp_ne (z_dec zd_X9_one 20 rfl) (t := 46) (by decide) (n := 41) rfl (fun h38 => ?_) (fun h38 => ?_)
        · have ho46 := z_op1 hQ h38
          refine p_aload_n (z_dec zd_X9_one 24 rfl) rfl 1 rfl (n := 47) rfl ?_
          refine p_dup (z_dec zd_X9_one 25 rfl) rfl (n := 48) rfl ?_
          refine q_getI (z_dec zd_X9_one 26 rfl) zf_X9_178 (by decide) rfl (v := (I 54 15)) rfl (n := 51) rfl ?_
          refine p_iconst (z_dec zd_X9_one 27 rfl) (v := 1) (by decide) (n := 52) rfl ?_
          refine p_iadd (z_dec zd_X9_one 28 rfl) (n := 53) rfl ?_
          refine q_putI (z_dec zd_X9_one 29 rfl) zp_X9_178 (fun q => by cases q) rfl (n := 56) rfl ?_
          have hP56 : z_K I ((z_up I 54 15 ((I 54 15) + 1))) := ho46.1
          refine p_aload_n (z_dec zd_X9_one 30 rfl) rfl 1 rfl (n := 57) rfl ?_
          refine p_dup (z_dec zd_X9_one 31 rfl) rfl (n := 58) rfl ?_
          refine q_getI (z_dec zd_X9_one 32 rfl) zf_X9_144 (by decide) rfl (v := (I 54 12)) (z_up_j _ _ (by decide)) (n := 61) rfl ?_
          refine p_iconst (z_dec zd_X9_one 33 rfl) (v := 1) (by decide) (n := 62) rfl ?_
          refine p_iadd (z_dec zd_X9_one 34 rfl) (n := 63) rfl ?_
          refine q_putI (z_dec zd_X9_one 35 rfl) zp_X9_144 (fun q => by cases q) rfl (n := 66) rfl ?_
          have hP66 : z_K I ((z_up (z_up I 54 15 ((I 54 15) + 1)) 54 12 ((I 54 12) + 1))) := z_K_tr hP56 (z_K_ad hP56.1 (by first | exact z_b0 rfl h17 (by decide) | exact z_b0 rfl h23 (by decide) | exact z_b0 rfl h29 (by decide))).1
          have hn66 := z_K_n (z_K_ad hP56.1 (by first | exact z_b0 rfl h17 (by decide) | exact z_b0 rfl h23 (by decide) | exact z_b0 rfl h29 (by decide))).1 (z_opn hP56 ho46.2 hQ.2.2.2.2 hn)
          refine p_iload_n (z_dec zd_X9_one 36 rfl) rfl 0 rfl (n := 67) rfl ?_
          refine p_bipush (z_dec zd_X9_one 37 rfl) (v := 40) (by decide) (n := 69) rfl ?_
          refine p_icmp_ne (z_dec zd_X9_one 38 rfl) (t := 79) (by decide) (n := 72) rfl (fun h69 => ?_) (fun h69 => ?_)
          · refine p_aload_n (z_dec zd_X9_one 42 rfl) rfl 1 rfl (n := 80) rfl ?_
            refine q_callV (As := []) (rest := []) (z_dec zd_X9_one 43 rfl) zk_X9_175 zv_X9_one (hFO (d - 1) (z_up (z_up I 54 15 ((I 54 15) + 1)) 54 12 ((I 54 12) + 1)) (by omega) hP66.1 hn66) rfl ⟨_, _, rfl⟩ rfl rfl (Nat.le_of_ble_eq_true rfl) (by omega) (n := 83) rfl ?_
            show PW zm_X9_one d 83 [(1, .int (f_X9_byteAt I)), (0, .ref 54)] [.int ((FO (z_up (z_up I 54 15 ((I 54 15) + 1)) 54 12 ((I 54 12) + 1))).1)] SH ((FO (z_up (z_up I 54 15 ((I 54 15) + 1)) 54 12 ((I 54 12) + 1))).2, L, z_R b) 0 0 _
            have hP83 : z_K I ((FO (z_up (z_up I 54 15 ((I 54 15) + 1)) 54 12 ((I 54 12) + 1))).2) := z_K_tr hP66 (hKO _ hP66.1)
            refine p_istore_n (z_dec zd_X9_one 44 rfl) rfl (lv2 := [(2, .int ((FO (z_up (z_up I 54 15 ((I 54 15) + 1)) 54 12 ((I 54 12) + 1))).1)), (1, .int (f_X9_byteAt I)), (0, .ref 54)]) (by decide) rfl (n := 84) rfl ?_
            refine p_iload_n (z_dec zd_X9_one 45 rfl) rfl 1 rfl (n := 85) rfl ?_
            refine p_bipush (z_dec zd_X9_one 46 rfl) (v := 40) (by decide) (n := 87) rfl ?_
            refine p_icmp_ne (z_dec zd_X9_one 47 rfl) (t := 104) (by decide) (n := 90) rfl (fun h87 => ?_) (fun h87 => ?_)
            · refine p_aload_n (z_dec zd_X9_one 55 rfl) rfl 2 rfl (n := 105) rfl ?_
              refine p_dup (z_dec zd_X9_one 56 rfl) rfl (n := 106) rfl ?_
              refine q_getI (z_dec zd_X9_one 57 rfl) zf_X9_178 (by decide) rfl (v := ((FO (z_up (z_up I 54 15 ((I 54 15) + 1)) 54 12 ((I 54 12) + 1))).2 54 15)) rfl (n := 109) rfl ?_
              refine p_iconst (z_dec zd_X9_one 58 rfl) (v := 1) (by decide) (n := 110) rfl ?_
              refine p_isub (z_dec zd_X9_one 59 rfl) (n := 111) rfl ?_
              refine q_putI (z_dec zd_X9_one 60 rfl) zp_X9_178 (fun q => by cases q) rfl (n := 114) rfl ?_
              refine p_iload_n (z_dec zd_X9_one 61 rfl) rfl 1 rfl (n := 115) rfl ?_
              refine p_bipush (z_dec zd_X9_one 62 rfl) (v := 40) (by decide) (n := 117) rfl ?_
              refine p_icmp_ne (z_dec zd_X9_one 63 rfl) (t := 124) (by decide) (n := 120) rfl (fun h117 => ?_) (fun h117 => ?_)
              · refine p_iload_n (z_dec zd_X9_one 66 rfl) rfl 1 rfl (n := 125) rfl ?_
                refine p_bipush (z_dec zd_X9_one 67 rfl) (v := 45) (by decide) (n := 127) rfl ?_
                refine p_icmp_ne (z_dec zd_X9_one 68 rfl) (t := 135) (by decide) (n := 130) rfl (fun h127 => ?_) (fun h127 => ?_)
                · refine p_iload_n (z_dec zd_X9_one 72 rfl) rfl 0 rfl (n := 136) rfl ?_
                  refine p_if_ne (z_dec zd_X9_one 73 rfl) (t := 143) (by decide) (n := 139) rfl (fun h136 => ?_) (fun h136 => ?_)
                  · refine p_iconst (z_dec zd_X9_one 76 rfl) (v := 0) (by decide) (n := 144) rfl ?_
                    exact p_iret (z_dec zd_X9_one 77 rfl) rfl ⟨(by unfold f_X9_one; rw [if_pos h4, if_pos h17, if_neg h38, if_neg h136]), rfl, (z_3 (by unfold m_X9_one; rw [if_pos h4, if_pos h17, if_neg h38, if_neg h136]) rfl)⟩
                  · refine p_iconst (z_dec zd_X9_one 74 rfl) (v := 1) (by decide) (n := 140) rfl ?_
                    refine p_goto (z_dec zd_X9_one 75 rfl) (t := 144) (by decide) ?_
                    exact p_iret (z_dec zd_X9_one 77 rfl) rfl ⟨(by unfold f_X9_one; rw [if_pos h4, if_pos h17, if_neg h38, if_pos h136]), rfl, (z_3 (by unfold m_X9_one; rw [if_pos h4, if_pos h17, if_neg h38, if_pos h136]) rfl)⟩
                · exact absurd (h17.symm.trans h127) (by decide)
              · exact absurd (h17.symm.trans h117) (by decide)
            · exact absurd (h17.symm.trans h87) (by decide)
          · exact absurd (h17.symm.trans h69) (by decide)
        · refine p_aload_n (z_dec zd_X9_one 21 rfl) rfl 1 rfl (n := 42) rfl ?_
          refine q_callV (As := []) (rest := []) (z_dec zd_X9_one 22 rfl) zk_X9_181 zv_X9_wrong (c_X9_wrong (d - 1) (by omega) b I L) rfl ⟨_, _, rfl⟩ rfl rfl (Nat.le_of_ble_eq_true rfl) (by omega) (n := 45) rfl ?_
          show PW zm_X9_one d 45 [(1, .int (f_X9_byteAt I)), (0, .ref 54)] [.int (f_X9_wrong I)] SH ((m_X9_wrong I), L, z_R b) 0 0 _
          exact p_iret (z_dec zd_X9_one 23 rfl) rfl ⟨(by unfold f_X9_one; rw [if_pos h4, if_pos h17, if_pos h38]), rfl, (z_3 (by unfold m_X9_one; rw [if_pos h4, if_pos h17, if_pos h38]) rfl)⟩
      · refine p_iload_n (z_dec zd_X9_one 11 rfl) rfl 0 rfl (n := 21) rfl ?_
        refine p_bipush (z_dec zd_X9_one 12 rfl) (v := 45) (by decide) (n := 23) rfl ?_
        refine p_icmp_eq (z_dec zd_X9_one 13 rfl) (t := 32) (by decide) (n := 26) rfl (fun h23 => ?_) (fun h23 => ?_)
        · refine p_aload_n (z_dec zd_X9_one 17 rfl) rfl 1 rfl (n := 33) rfl ?_
          refine q_getI (z_dec zd_X9_one 18 rfl) zf_X9_178 (by decide) rfl (v := (I 54 15)) rfl (n := 36) rfl ?_
          refine p_bipush (z_dec zd_X9_one 19 rfl) (v := 6) (by decide) (n := 38) rfl ?_
          refine p_icmp_ne (z_dec zd_X9_one 20 rfl) (t := 46) (by decide) (n := 41) rfl (fun h38 => ?_) (fun h38 => ?_)
          · have ho46 := z_op1 hQ h38
            refine p_aload_n (z_dec zd_X9_one 24 rfl) rfl 1 rfl (n := 47) rfl ?_
            refine p_dup (z_dec zd_X9_one 25 rfl) rfl (n := 48) rfl ?_
            refine q_getI (z_dec zd_X9_one 26 rfl) zf_X9_178 (by decide) rfl (v := (I 54 15)) rfl (n := 51) rfl ?_
            refine p_iconst (z_dec zd_X9_one 27 rfl) (v := 1) (by decide) (n := 52) rfl ?_
            refine p_iadd (z_dec zd_X9_one 28 rfl) (n := 53) rfl ?_
            refine q_putI (z_dec zd_X9_one 29 rfl) zp_X9_178 (fun q => by cases q) rfl (n := 56) rfl ?_
            have hP56 : z_K I ((z_up I 54 15 ((I 54 15) + 1))) := ho46.1
            refine p_aload_n (z_dec zd_X9_one 30 rfl) rfl 1 rfl (n := 57) rfl ?_
            refine p_dup (z_dec zd_X9_one 31 rfl) rfl (n := 58) rfl ?_
            refine q_getI (z_dec zd_X9_one 32 rfl) zf_X9_144 (by decide) rfl (v := (I 54 12)) (z_up_j _ _ (by decide)) (n := 61) rfl ?_
            refine p_iconst (z_dec zd_X9_one 33 rfl) (v := 1) (by decide) (n := 62) rfl ?_
            refine p_iadd (z_dec zd_X9_one 34 rfl) (n := 63) rfl ?_
            refine q_putI (z_dec zd_X9_one 35 rfl) zp_X9_144 (fun q => by cases q) rfl (n := 66) rfl ?_
            have hP66 : z_K I ((z_up (z_up I 54 15 ((I 54 15) + 1)) 54 12 ((I 54 12) + 1))) := z_K_tr hP56 (z_K_ad hP56.1 (by first | exact z_b0 rfl h17 (by decide) | exact z_b0 rfl h23 (by decide) | exact z_b0 rfl h29 (by decide))).1
            have hn66 := z_K_n (z_K_ad hP56.1 (by first | exact z_b0 rfl h17 (by decide) | exact z_b0 rfl h23 (by decide) | exact z_b0 rfl h29 (by decide))).1 (z_opn hP56 ho46.2 hQ.2.2.2.2 hn)
            refine p_iload_n (z_dec zd_X9_one 36 rfl) rfl 0 rfl (n := 67) rfl ?_
            refine p_bipush (z_dec zd_X9_one 37 rfl) (v := 40) (by decide) (n := 69) rfl ?_
            refine p_icmp_ne (z_dec zd_X9_one 38 rfl) (t := 79) (by decide) (n := 72) rfl (fun h69 => ?_) (fun h69 => ?_)
            · refine p_aload_n (z_dec zd_X9_one 42 rfl) rfl 1 rfl (n := 80) rfl ?_
              refine q_callV (As := []) (rest := []) (z_dec zd_X9_one 43 rfl) zk_X9_175 zv_X9_one (hFO (d - 1) (z_up (z_up I 54 15 ((I 54 15) + 1)) 54 12 ((I 54 12) + 1)) (by omega) hP66.1 hn66) rfl ⟨_, _, rfl⟩ rfl rfl (Nat.le_of_ble_eq_true rfl) (by omega) (n := 83) rfl ?_
              show PW zm_X9_one d 83 [(1, .int (f_X9_byteAt I)), (0, .ref 54)] [.int ((FO (z_up (z_up I 54 15 ((I 54 15) + 1)) 54 12 ((I 54 12) + 1))).1)] SH ((FO (z_up (z_up I 54 15 ((I 54 15) + 1)) 54 12 ((I 54 12) + 1))).2, L, z_R b) 0 0 _
              skip
              refine p_istore_n (z_dec zd_X9_one 44 rfl) rfl (lv2 := [(2, .int ((FO (z_up (z_up I 54 15 ((I 54 15) + 1)) 54 12 ((I 54 12) + 1))).1)), (1, .int (f_X9_byteAt I)), (0, .ref 54)]) (by decide) rfl (n := 84) rfl ?_
              refine p_iload_n (z_dec zd_X9_one 45 rfl) rfl 1 rfl (n := 85) rfl ?_
              refine p_bipush (z_dec zd_X9_one 46 rfl) (v := 40) (by decide) (n := 87) rfl ?_
              refine p_icmp_ne (z_dec zd_X9_one 47 rfl) (t := 104) (by decide) (n := 90) rfl (fun h87 => ?_) (fun h87 => ?_)
              · refine p_aload_n (z_dec zd_X9_one 55 rfl) rfl 2 rfl (n := 105) rfl ?_
                refine p_dup (z_dec zd_X9_one 56 rfl) rfl (n := 106) rfl ?_
                refine q_getI (z_dec zd_X9_one 57 rfl) zf_X9_178 (by decide) rfl (v := ((FO (z_up (z_up I 54 15 ((I 54 15) + 1)) 54 12 ((I 54 12) + 1))).2 54 15)) rfl (n := 109) rfl ?_
                refine p_iconst (z_dec zd_X9_one 58 rfl) (v := 1) (by decide) (n := 110) rfl ?_
                refine p_isub (z_dec zd_X9_one 59 rfl) (n := 111) rfl ?_
                refine q_putI (z_dec zd_X9_one 60 rfl) zp_X9_178 (fun q => by cases q) rfl (n := 114) rfl ?_
                refine p_iload_n (z_dec zd_X9_one 61 rfl) rfl 1 rfl (n := 115) rfl ?_
                refine p_bipush (z_dec zd_X9_one 62 rfl) (v := 40) (by decide) (n := 117) rfl ?_
                refine p_icmp_ne (z_dec zd_X9_one 63 rfl) (t := 124) (by decide) (n := 120) rfl (fun h117 => ?_) (fun h117 => ?_)
                · refine p_iload_n (z_dec zd_X9_one 66 rfl) rfl 1 rfl (n := 125) rfl ?_
                  refine p_bipush (z_dec zd_X9_one 67 rfl) (v := 45) (by decide) (n := 127) rfl ?_
                  refine p_icmp_ne (z_dec zd_X9_one 68 rfl) (t := 135) (by decide) (n := 130) rfl (fun h127 => ?_) (fun h127 => ?_)
                  · exact absurd h23 h127
                  · refine p_iload_n (z_dec zd_X9_one 69 rfl) rfl 0 rfl (n := 131) rfl ?_
                    refine p_ineg (z_dec zd_X9_one 70 rfl) (n := 132) rfl ?_
                    refine p_goto (z_dec zd_X9_one 71 rfl) (t := 144) (by decide) ?_
                    exact p_iret (z_dec zd_X9_one 77 rfl) rfl ⟨(by unfold f_X9_one; rw [if_pos h4, if_neg h17, if_pos h23, if_neg h38]), rfl, (z_3 (by unfold m_X9_one; rw [if_pos h4, if_neg h17, if_pos h23, if_neg h38]) rfl)⟩
                · exact absurd (h23.symm.trans h117) (by decide)
              · exact absurd (h23.symm.trans h87) (by decide)
            · exact absurd (h23.symm.trans h69) (by decide)
          · refine p_aload_n (z_dec zd_X9_one 21 rfl) rfl 1 rfl (n := 42) rfl ?_
            refine q_callV (As := []) (rest := []) (z_dec zd_X9_one 22 rfl) zk_X9_181 zv_X9_wrong (c_X9_wrong (d - 1) (by omega) b I L) rfl ⟨_, _, rfl⟩ rfl rfl (Nat.le_of_ble_eq_true rfl) (by omega) (n := 45) rfl ?_
            show PW zm_X9_one d 45 [(1, .int (f_X9_byteAt I)), (0, .ref 54)] [.int (f_X9_wrong I)] SH ((m_X9_wrong I), L, z_R b) 0 0 _
            exact p_iret (z_dec zd_X9_one 23 rfl) rfl ⟨(by unfold f_X9_one; rw [if_pos h4, if_neg h17, if_pos h23, if_pos h38]), rfl, (z_3 (by unfold m_X9_one; rw [if_pos h4, if_neg h17, if_pos h23, if_pos h38]) rfl)⟩
        · refine p_iload_n (z_dec zd_X9_one 14 rfl) rfl 0 rfl (n := 27) rfl ?_
          refine p_bipush (z_dec zd_X9_one 15 rfl) (v := 40) (by decide) (n := 29) rfl ?_
          refine p_icmp_ne (z_dec zd_X9_one 16 rfl) (t := 145) (by decide) (n := 32) rfl (fun h29 => ?_) (fun h29 => ?_)
          · refine p_iload_n (z_dec zd_X9_one 78 rfl) rfl 0 rfl (n := 146) rfl ?_
            refine q_callS (As := [.int (f_X9_byteAt I)]) (rest := []) (z_dec zd_X9_one 79 rfl) zk_X9_187 zs_X9_nameOf (c_X9_nameOf (d - 1) (by omega) b I L (f_X9_byteAt I)) rfl rfl (Nat.le_of_ble_eq_true rfl) (by omega) (n := 149) rfl ?_
            show PW zm_X9_one d 149 [(1, .int (f_X9_byteAt I)), (0, .ref 54)] [.int (f_X9_nameOf (f_X9_byteAt I))] SH (I, L, z_R b) 0 0 _
            refine p_istore_n (z_dec zd_X9_one 80 rfl) rfl (lv2 := [(2, .int (f_X9_nameOf (f_X9_byteAt I))), (1, .int (f_X9_byteAt I)), (0, .ref 54)]) (by decide) rfl (n := 150) rfl ?_
            refine p_iload_n (z_dec zd_X9_one 81 rfl) rfl 0 rfl (n := 151) rfl ?_
            refine p_if_lt (z_dec zd_X9_one 82 rfl) (t := 171) (by decide) (n := 154) rfl (fun h151 => ?_) (fun h151 => ?_)
            · refine p_iconst (z_dec zd_X9_one 94 rfl) (v := 0) (by decide) (n := 172) rfl ?_
              refine p_istore_n (z_dec zd_X9_one 95 rfl) rfl (lv2 := [(3, .int 0), (2, .int (f_X9_nameOf (f_X9_byteAt I))), (1, .int (f_X9_byteAt I)), (0, .ref 54)]) (by decide) rfl (n := 173) rfl ?_
              refine p_iconst (z_dec zd_X9_one 96 rfl) (v := 0) (by decide) (n := 174) rfl ?_
              refine p_istore (z_dec zd_X9_one 97 rfl) (lv2 := [(4, .int 0), (3, .int 0), (2, .int (f_X9_nameOf (f_X9_byteAt I))), (1, .int (f_X9_byteAt I)), (0, .ref 54)]) (by decide) rfl (n := 176) rfl ?_
              have hL176 : ∀ (r176 t176 : Nat) (v3 : Int32) (Iv : Nat → Nat → Int32), t176 + r176 = 4 → z_K I Iv → PW zm_X9_one d 176 [(4, .int (nI t176)), (3, .int v3), (2, .int (f_X9_nameOf (f_X9_byteAt I))), (1, .int (f_X9_byteAt I)), (0, .ref 54)] [] SH (Iv, L, z_R b) 0 0 (z_ret (some (.int (gx_X9_one_176 r176 t176 v3 Iv).1)) ((gx_X9_one_176 r176 t176 v3 Iv).2, L, z_R b)) := by
                intro r176
                induction r176 with
                | zero =>
                  intro t176 v3 Iv ht176 hlo
                  refine p_iload (z_dec zd_X9_one 98 rfl) 0 rfl (n := 178) rfl ?_
                  refine p_iconst (z_dec zd_X9_one 99 rfl) (v := 4) (by decide) (n := 179) rfl ?_
                  refine p_icmp_ge (z_dec zd_X9_one 100 rfl) (t := 229) (by decide) (n := 182) rfl (fun h179 => ?_) (fun h179 => ?_)
                  · refine p_iload (z_dec zd_X9_one 126 rfl) 0 rfl (n := 231) rfl ?_
                    refine p_if_ne (z_dec zd_X9_one 127 rfl) (t := 241) (by decide) (n := 234) rfl (fun h231 => ?_) (fun h231 => ?_)
                    · refine p_iload_n (z_dec zd_X9_one 131 rfl) rfl 1 rfl (n := 242) rfl ?_
                      exact p_iret (z_dec zd_X9_one 132 rfl) rfl ⟨(by (conv => rhs; unfold gx_X9_one_176); rw [if_neg h231]), rfl, (z_3 (by (conv => rhs; unfold gx_X9_one_176); rw [if_neg h231]) rfl)⟩
                    · refine p_aload_n (z_dec zd_X9_one 128 rfl) rfl 4 rfl (n := 235) rfl ?_
                      refine q_callV (As := []) (rest := []) (z_dec zd_X9_one 129 rfl) zk_X9_181 zv_X9_wrong (c_X9_wrong (d - 1) (by omega) b Iv L) rfl ⟨_, _, rfl⟩ rfl rfl (Nat.le_of_ble_eq_true rfl) (by omega) (n := 238) rfl ?_
                      show PW zm_X9_one d 238 [(4, .int (nI t176)), (3, .int v3), (2, .int (f_X9_nameOf (f_X9_byteAt I))), (1, .int (f_X9_byteAt I)), (0, .ref 54)] [.int (f_X9_wrong Iv)] SH ((m_X9_wrong Iv), L, z_R b) 0 0 _
                      refine p_goto (z_dec zd_X9_one 130 rfl) (t := 242) (by decide) ?_
                      exact p_iret (z_dec zd_X9_one 132 rfl) rfl ⟨(by (conv => rhs; unfold gx_X9_one_176); rw [if_pos h231]), rfl, (z_3 (by (conv => rhs; unfold gx_X9_one_176); rw [if_pos h231]) rfl)⟩
                  · exact absurd (z_nge (a := 4) h179) (by omega)
                | succ r176 ih176 =>
                  intro t176 v3 Iv ht176 hlo
                  refine p_iload (z_dec zd_X9_one 98 rfl) 0 rfl (n := 178) rfl ?_
                  refine p_iconst (z_dec zd_X9_one 99 rfl) (v := 4) (by decide) (n := 179) rfl ?_
                  refine p_icmp_ge (z_dec zd_X9_one 100 rfl) (t := 229) (by decide) (n := 182) rfl (fun h179 => ?_) (fun h179 => ?_)
                  · exact absurd (z_ge (a := 4) h179) (by omega)
                  · have hx176 : t176 < 4 := by omega
                    refine p_aload_n (z_dec zd_X9_one 101 rfl) rfl 4 rfl (n := 183) rfl ?_
                    refine q_callV (As := []) (rest := []) (z_dec zd_X9_one 102 rfl) zk_X9_156 zv_X9_byteAt (c_X9_byteAt (d - 1) (by omega) b Iv L hlo.1) rfl ⟨_, _, rfl⟩ rfl rfl (Nat.le_of_ble_eq_true rfl) (by omega) (n := 186) rfl ?_
                    show PW zm_X9_one d 186 [(4, .int (nI t176)), (3, .int v3), (2, .int (f_X9_nameOf (f_X9_byteAt I))), (1, .int (f_X9_byteAt I)), (0, .ref 54)] [.int (f_X9_byteAt Iv)] SH (Iv, L, z_R b) 0 0 _
                    refine p_bipush (z_dec zd_X9_one 103 rfl) (v := 48) (by decide) (n := 188) rfl ?_
                    refine p_icmp_lt (z_dec zd_X9_one 104 rfl) (t := 229) (by decide) (n := 191) rfl (fun h188 => ?_) (fun h188 => ?_)
                    · refine p_iload (z_dec zd_X9_one 126 rfl) 0 rfl (n := 231) rfl ?_
                      refine p_if_ne (z_dec zd_X9_one 127 rfl) (t := 241) (by decide) (n := 234) rfl (fun h231 => ?_) (fun h231 => ?_)
                      · refine p_iload_n (z_dec zd_X9_one 131 rfl) rfl 1 rfl (n := 242) rfl ?_
                        exact p_iret (z_dec zd_X9_one 132 rfl) rfl ⟨(by (conv => rhs; unfold gx_X9_one_176); rw [if_pos h188, if_neg h231]), rfl, (z_3 (by (conv => rhs; unfold gx_X9_one_176); rw [if_pos h188, if_neg h231]) rfl)⟩
                      · refine p_aload_n (z_dec zd_X9_one 128 rfl) rfl 4 rfl (n := 235) rfl ?_
                        refine q_callV (As := []) (rest := []) (z_dec zd_X9_one 129 rfl) zk_X9_181 zv_X9_wrong (c_X9_wrong (d - 1) (by omega) b Iv L) rfl ⟨_, _, rfl⟩ rfl rfl (Nat.le_of_ble_eq_true rfl) (by omega) (n := 238) rfl ?_
                        show PW zm_X9_one d 238 [(4, .int (nI t176)), (3, .int v3), (2, .int (f_X9_nameOf (f_X9_byteAt I))), (1, .int (f_X9_byteAt I)), (0, .ref 54)] [.int (f_X9_wrong Iv)] SH ((m_X9_wrong Iv), L, z_R b) 0 0 _
                        refine p_goto (z_dec zd_X9_one 130 rfl) (t := 242) (by decide) ?_
                        exact p_iret (z_dec zd_X9_one 132 rfl) rfl ⟨(by (conv => rhs; unfold gx_X9_one_176); rw [if_pos h188, if_pos h231]), rfl, (z_3 (by (conv => rhs; unfold gx_X9_one_176); rw [if_pos h188, if_pos h231]) rfl)⟩
                    · refine p_aload_n (z_dec zd_X9_one 105 rfl) rfl 4 rfl (n := 192) rfl ?_
                      refine q_callV (As := []) (rest := []) (z_dec zd_X9_one 106 rfl) zk_X9_156 zv_X9_byteAt (c_X9_byteAt (d - 1) (by omega) b Iv L hlo.1) rfl ⟨_, _, rfl⟩ rfl rfl (Nat.le_of_ble_eq_true rfl) (by omega) (n := 195) rfl ?_
                      show PW zm_X9_one d 195 [(4, .int (nI t176)), (3, .int v3), (2, .int (f_X9_nameOf (f_X9_byteAt I))), (1, .int (f_X9_byteAt I)), (0, .ref 54)] [.int (f_X9_byteAt Iv)] SH (Iv, L, z_R b) 0 0 _
                      refine p_bipush (z_dec zd_X9_one 107 rfl) (v := 57) (by decide) (n := 197) rfl ?_
                      refine p_icmp_gt (z_dec zd_X9_one 108 rfl) (t := 229) (by decide) (n := 200) rfl (fun h197 => ?_) (fun h197 => ?_)
                      · refine p_iload (z_dec zd_X9_one 126 rfl) 0 rfl (n := 231) rfl ?_
                        refine p_if_ne (z_dec zd_X9_one 127 rfl) (t := 241) (by decide) (n := 234) rfl (fun h231 => ?_) (fun h231 => ?_)
                        · refine p_iload_n (z_dec zd_X9_one 131 rfl) rfl 1 rfl (n := 242) rfl ?_
                          exact p_iret (z_dec zd_X9_one 132 rfl) rfl ⟨(by (conv => rhs; unfold gx_X9_one_176); rw [if_neg h188, if_pos h197, if_neg h231]), rfl, (z_3 (by (conv => rhs; unfold gx_X9_one_176); rw [if_neg h188, if_pos h197, if_neg h231]) rfl)⟩
                        · refine p_aload_n (z_dec zd_X9_one 128 rfl) rfl 4 rfl (n := 235) rfl ?_
                          refine q_callV (As := []) (rest := []) (z_dec zd_X9_one 129 rfl) zk_X9_181 zv_X9_wrong (c_X9_wrong (d - 1) (by omega) b Iv L) rfl ⟨_, _, rfl⟩ rfl rfl (Nat.le_of_ble_eq_true rfl) (by omega) (n := 238) rfl ?_
                          show PW zm_X9_one d 238 [(4, .int (nI t176)), (3, .int v3), (2, .int (f_X9_nameOf (f_X9_byteAt I))), (1, .int (f_X9_byteAt I)), (0, .ref 54)] [.int (f_X9_wrong Iv)] SH ((m_X9_wrong Iv), L, z_R b) 0 0 _
                          refine p_goto (z_dec zd_X9_one 130 rfl) (t := 242) (by decide) ?_
                          exact p_iret (z_dec zd_X9_one 132 rfl) rfl ⟨(by (conv => rhs; unfold gx_X9_one_176); rw [if_neg h188, if_pos h197, if_pos h231]), rfl, (z_3 (by (conv => rhs; unfold gx_X9_one_176); rw [if_neg h188, if_pos h197, if_pos h231]) rfl)⟩
                      · refine p_bipush (z_dec zd_X9_one 109 rfl) (v := 10) (by decide) (n := 202) rfl ?_
                        refine p_iload_n (z_dec zd_X9_one 110 rfl) rfl 1 rfl (n := 203) rfl ?_
                        refine p_imul (z_dec zd_X9_one 111 rfl) (n := 204) rfl ?_
                        refine p_aload_n (z_dec zd_X9_one 112 rfl) rfl 4 rfl (n := 205) rfl ?_
                        refine q_callV (As := []) (rest := [.int (10 * v3)]) (z_dec zd_X9_one 113 rfl) zk_X9_156 zv_X9_byteAt (c_X9_byteAt (d - 1) (by omega) b Iv L hlo.1) rfl ⟨_, _, rfl⟩ rfl rfl (Nat.le_of_ble_eq_true rfl) (by omega) (n := 208) rfl ?_
                        show PW zm_X9_one d 208 [(4, .int (nI t176)), (3, .int v3), (2, .int (f_X9_nameOf (f_X9_byteAt I))), (1, .int (f_X9_byteAt I)), (0, .ref 54)] [.int (f_X9_byteAt Iv), .int (10 * v3)] SH (Iv, L, z_R b) 0 0 _
                        refine p_iadd (z_dec zd_X9_one 114 rfl) (n := 209) rfl ?_
                        refine p_bipush (z_dec zd_X9_one 115 rfl) (v := 48) (by decide) (n := 211) rfl ?_
                        refine p_isub (z_dec zd_X9_one 116 rfl) (n := 212) rfl ?_
                        refine p_istore_n (z_dec zd_X9_one 117 rfl) rfl (lv2 := [(3, .int (((10 * v3) + (f_X9_byteAt Iv)) - 48)), (4, .int (nI t176)), (2, .int (f_X9_nameOf (f_X9_byteAt I))), (1, .int (f_X9_byteAt I)), (0, .ref 54)]) (by decide) rfl (n := 213) rfl ?_
                        refine p_iinc (z_dec zd_X9_one 118 rfl) 1 rfl (v := (nI (t176 + 1))) (nI_1 _) (lv2 := [(4, .int (nI (t176 + 1))), (3, .int (((10 * v3) + (f_X9_byteAt Iv)) - 48)), (2, .int (f_X9_nameOf (f_X9_byteAt I))), (1, .int (f_X9_byteAt I)), (0, .ref 54)]) (by decide) rfl (n := 216) rfl ?_
                        refine p_aload_n (z_dec zd_X9_one 119 rfl) rfl 4 rfl (n := 217) rfl ?_
                        refine p_dup (z_dec zd_X9_one 120 rfl) rfl (n := 218) rfl ?_
                        refine q_getI (z_dec zd_X9_one 121 rfl) zf_X9_144 (by decide) rfl (v := (Iv 54 12)) rfl (n := 221) rfl ?_
                        refine p_iconst (z_dec zd_X9_one 122 rfl) (v := 1) (by decide) (n := 222) rfl ?_
                        refine p_iadd (z_dec zd_X9_one 123 rfl) (n := 223) rfl ?_
                        refine q_putI (z_dec zd_X9_one 124 rfl) zp_X9_144 (fun q => by cases q) rfl (n := 226) rfl ?_
                        have hP226 : z_K I ((z_up Iv 54 12 ((Iv 54 12) + 1))) := z_K_tr hlo (z_K_ad hlo.1 (z_dg0 h188)).1
                        refine p_goto (z_dec zd_X9_one 125 rfl) (t := 176) (by decide) ?_
                        rw [show gx_X9_one_176 (r176 + 1) t176 v3 Iv = gx_X9_one_176 r176 (t176 + 1) (((10 * v3) + (f_X9_byteAt Iv)) - 48) (z_up Iv 54 12 ((Iv 54 12) + 1)) from by (conv => lhs; unfold gx_X9_one_176); rw [if_neg h188, if_neg h197]]
                        exact ih176 (t176 + 1) (((10 * v3) + (f_X9_byteAt Iv)) - 48) (z_up Iv 54 12 ((Iv 54 12) + 1)) (by omega) hP226
              exact (by have q := (hL176 4 0 0 I (by omega) (z_K_rf hQ)); (rw [show f_X9_one I FO FE = _ from by unfold f_X9_one; rw [if_pos h4, if_neg h17, if_neg h23, if_neg h29, if_pos h151]]); (rw [show m_X9_one I FO FE = _ from by unfold m_X9_one; rw [if_pos h4, if_neg h17, if_neg h23, if_neg h29, if_pos h151]]); exact q)
            · have hno := z_nmo h151
              refine p_aload_n (z_dec zd_X9_one 83 rfl) rfl 2 rfl (n := 155) rfl ?_
              refine p_dup (z_dec zd_X9_one 84 rfl) rfl (n := 156) rfl ?_
              refine q_getI (z_dec zd_X9_one 85 rfl) zf_X9_144 (by decide) rfl (v := (I 54 12)) rfl (n := 159) rfl ?_
              refine p_iconst (z_dec zd_X9_one 86 rfl) (v := 1) (by decide) (n := 160) rfl ?_
              refine p_iadd (z_dec zd_X9_one 87 rfl) (n := 161) rfl ?_
              refine q_putI (z_dec zd_X9_one 88 rfl) zp_X9_144 (fun q => by cases q) rfl (n := 164) rfl ?_
              have hP164 : z_K I ((z_up I 54 12 ((I 54 12) + 1))) := (z_K_ad hQ (z_nm0 h151)).1
              refine p_aload_n (z_dec zd_X9_one 89 rfl) rfl 2 rfl (n := 165) rfl ?_
              refine q_getR (z_dec zd_X9_one 90 rfl) zf_X9_28 (i := 61) rfl rfl (n := 168) rfl ?_
              refine p_iload_n (z_dec zd_X9_one 91 rfl) rfl 0 rfl (n := 169) rfl ?_
              refine q_iald (z_dec zd_X9_one 92 rfl) rfl (by decide) ((f_X9_nameOf (f_X9_byteAt I)).toNatClampNeg) hno.1 hno.2 (v := (I 61 ((f_X9_nameOf (f_X9_byteAt I)).toNatClampNeg))) (z_up_k _ _ (by decide)) (n := 170) rfl ?_
              exact p_iret (z_dec zd_X9_one 93 rfl) rfl ⟨(by unfold f_X9_one; rw [if_pos h4, if_neg h17, if_neg h23, if_neg h29, if_neg h151]), rfl, (z_3 (by unfold m_X9_one; rw [if_pos h4, if_neg h17, if_neg h23, if_neg h29, if_neg h151]) rfl)⟩
          · refine p_aload_n (z_dec zd_X9_one 17 rfl) rfl 1 rfl (n := 33) rfl ?_
            refine q_getI (z_dec zd_X9_one 18 rfl) zf_X9_178 (by decide) rfl (v := (I 54 15)) rfl (n := 36) rfl ?_
            refine p_bipush (z_dec zd_X9_one 19 rfl) (v := 6) (by decide) (n := 38) rfl ?_
            refine p_icmp_ne (z_dec zd_X9_one 20 rfl) (t := 46) (by decide) (n := 41) rfl (fun h38 => ?_) (fun h38 => ?_)
            · have ho46 := z_op1 hQ h38
              refine p_aload_n (z_dec zd_X9_one 24 rfl) rfl 1 rfl (n := 47) rfl ?_
              refine p_dup (z_dec zd_X9_one 25 rfl) rfl (n := 48) rfl ?_
              refine q_getI (z_dec zd_X9_one 26 rfl) zf_X9_178 (by decide) rfl (v := (I 54 15)) rfl (n := 51) rfl ?_
              refine p_iconst (z_dec zd_X9_one 27 rfl) (v := 1) (by decide) (n := 52) rfl ?_
              refine p_iadd (z_dec zd_X9_one 28 rfl) (n := 53) rfl ?_
              refine q_putI (z_dec zd_X9_one 29 rfl) zp_X9_178 (fun q => by cases q) rfl (n := 56) rfl ?_
              have hP56 : z_K I ((z_up I 54 15 ((I 54 15) + 1))) := ho46.1
              refine p_aload_n (z_dec zd_X9_one 30 rfl) rfl 1 rfl (n := 57) rfl ?_
              refine p_dup (z_dec zd_X9_one 31 rfl) rfl (n := 58) rfl ?_
              refine q_getI (z_dec zd_X9_one 32 rfl) zf_X9_144 (by decide) rfl (v := (I 54 12)) (z_up_j _ _ (by decide)) (n := 61) rfl ?_
              refine p_iconst (z_dec zd_X9_one 33 rfl) (v := 1) (by decide) (n := 62) rfl ?_
              refine p_iadd (z_dec zd_X9_one 34 rfl) (n := 63) rfl ?_
              refine q_putI (z_dec zd_X9_one 35 rfl) zp_X9_144 (fun q => by cases q) rfl (n := 66) rfl ?_
              have hP66 : z_K I ((z_up (z_up I 54 15 ((I 54 15) + 1)) 54 12 ((I 54 12) + 1))) := z_K_tr hP56 (z_K_ad hP56.1 (by first | exact z_b0 rfl h17 (by decide) | exact z_b0 rfl h23 (by decide) | exact z_b0 rfl h29 (by decide))).1
              have hn66 := z_K_n (z_K_ad hP56.1 (by first | exact z_b0 rfl h17 (by decide) | exact z_b0 rfl h23 (by decide) | exact z_b0 rfl h29 (by decide))).1 (z_opn hP56 ho46.2 hQ.2.2.2.2 hn)
              refine p_iload_n (z_dec zd_X9_one 36 rfl) rfl 0 rfl (n := 67) rfl ?_
              refine p_bipush (z_dec zd_X9_one 37 rfl) (v := 40) (by decide) (n := 69) rfl ?_
              refine p_icmp_ne (z_dec zd_X9_one 38 rfl) (t := 79) (by decide) (n := 72) rfl (fun h69 => ?_) (fun h69 => ?_)
              · exact absurd h29 h69
              · refine p_aload_n (z_dec zd_X9_one 39 rfl) rfl 1 rfl (n := 73) rfl ?_
                refine q_callV (As := []) (rest := []) (z_dec zd_X9_one 40 rfl) zk_X9_184 zv_X9_either (hFE (d - 1) (z_up (z_up I 54 15 ((I 54 15) + 1)) 54 12 ((I 54 12) + 1)) (by omega) hP66.1 hn66) rfl ⟨_, _, rfl⟩ rfl rfl (Nat.le_of_ble_eq_true rfl) (by omega) (n := 76) rfl ?_
                show PW zm_X9_one d 76 [(1, .int (f_X9_byteAt I)), (0, .ref 54)] [.int ((FE (z_up (z_up I 54 15 ((I 54 15) + 1)) 54 12 ((I 54 12) + 1))).1)] SH ((FE (z_up (z_up I 54 15 ((I 54 15) + 1)) 54 12 ((I 54 12) + 1))).2, L, z_R b) 0 0 _
                have hP76 : z_K I ((FE (z_up (z_up I 54 15 ((I 54 15) + 1)) 54 12 ((I 54 12) + 1))).2) := z_K_tr hP66 (hKE _ hP66.1)
                refine p_goto (z_dec zd_X9_one 41 rfl) (t := 83) (by decide) ?_
                skip
                refine p_istore_n (z_dec zd_X9_one 44 rfl) rfl (lv2 := [(2, .int ((FE (z_up (z_up I 54 15 ((I 54 15) + 1)) 54 12 ((I 54 12) + 1))).1)), (1, .int (f_X9_byteAt I)), (0, .ref 54)]) (by decide) rfl (n := 84) rfl ?_
                refine p_iload_n (z_dec zd_X9_one 45 rfl) rfl 1 rfl (n := 85) rfl ?_
                refine p_bipush (z_dec zd_X9_one 46 rfl) (v := 40) (by decide) (n := 87) rfl ?_
                refine p_icmp_ne (z_dec zd_X9_one 47 rfl) (t := 104) (by decide) (n := 90) rfl (fun h87 => ?_) (fun h87 => ?_)
                · exact absurd h29 h87
                · refine p_aload_n (z_dec zd_X9_one 48 rfl) rfl 2 rfl (n := 91) rfl ?_
                  refine p_bipush (z_dec zd_X9_one 49 rfl) (v := 41) (by decide) (n := 93) rfl ?_
                  refine q_callV (As := [.int 41]) (rest := []) (z_dec zd_X9_one 50 rfl) zk_X9_163 zv_X9_takes (c_X9_takes (d - 1) (by omega) b ((FE (z_up (z_up I 54 15 ((I 54 15) + 1)) 54 12 ((I 54 12) + 1))).2) L 41 hP76.1) rfl ⟨_, _, rfl⟩ rfl rfl (Nat.le_of_ble_eq_true rfl) (by omega) (n := 96) rfl ?_
                  show PW zm_X9_one d 96 [(2, .int ((FE (z_up (z_up I 54 15 ((I 54 15) + 1)) 54 12 ((I 54 12) + 1))).1)), (1, .int (f_X9_byteAt I)), (0, .ref 54)] [.int (f_X9_takes ((FE (z_up (z_up I 54 15 ((I 54 15) + 1)) 54 12 ((I 54 12) + 1))).2) 41)] SH ((m_X9_takes ((FE (z_up (z_up I 54 15 ((I 54 15) + 1)) 54 12 ((I 54 12) + 1))).2) 41), L, z_R b) 0 0 _
                  refine p_if_ne (z_dec zd_X9_one 51 rfl) (t := 104) (by decide) (n := 99) rfl (fun h96 => ?_) (fun h96 => ?_)
                  · refine p_aload_n (z_dec zd_X9_one 55 rfl) rfl 2 rfl (n := 105) rfl ?_
                    refine p_dup (z_dec zd_X9_one 56 rfl) rfl (n := 106) rfl ?_
                    refine q_getI (z_dec zd_X9_one 57 rfl) zf_X9_178 (by decide) rfl (v := ((m_X9_takes ((FE (z_up (z_up I 54 15 ((I 54 15) + 1)) 54 12 ((I 54 12) + 1))).2) 41) 54 15)) rfl (n := 109) rfl ?_
                    refine p_iconst (z_dec zd_X9_one 58 rfl) (v := 1) (by decide) (n := 110) rfl ?_
                    refine p_isub (z_dec zd_X9_one 59 rfl) (n := 111) rfl ?_
                    refine q_putI (z_dec zd_X9_one 60 rfl) zp_X9_178 (fun q => by cases q) rfl (n := 114) rfl ?_
                    refine p_iload_n (z_dec zd_X9_one 61 rfl) rfl 1 rfl (n := 115) rfl ?_
                    refine p_bipush (z_dec zd_X9_one 62 rfl) (v := 40) (by decide) (n := 117) rfl ?_
                    refine p_icmp_ne (z_dec zd_X9_one 63 rfl) (t := 124) (by decide) (n := 120) rfl (fun h117 => ?_) (fun h117 => ?_)
                    · exact absurd h29 h117
                    · refine p_iload_n (z_dec zd_X9_one 64 rfl) rfl 0 rfl (n := 121) rfl ?_
                      refine p_goto (z_dec zd_X9_one 65 rfl) (t := 144) (by decide) ?_
                      exact p_iret (z_dec zd_X9_one 77 rfl) rfl ⟨(by unfold f_X9_one; rw [if_pos h4, if_neg h17, if_neg h23, if_pos h29, if_neg h38, if_neg h96]), rfl, (z_3 (by unfold m_X9_one; rw [if_pos h4, if_neg h17, if_neg h23, if_pos h29, if_neg h38, if_neg h96]) rfl)⟩
                  · refine p_aload_n (z_dec zd_X9_one 52 rfl) rfl 2 rfl (n := 100) rfl ?_
                    refine q_callV (As := []) (rest := []) (z_dec zd_X9_one 53 rfl) zk_X9_181 zv_X9_wrong (c_X9_wrong (d - 1) (by omega) b (m_X9_takes ((FE (z_up (z_up I 54 15 ((I 54 15) + 1)) 54 12 ((I 54 12) + 1))).2) 41) L) rfl ⟨_, _, rfl⟩ rfl rfl (Nat.le_of_ble_eq_true rfl) (by omega) (n := 103) rfl ?_
                    show PW zm_X9_one d 103 [(2, .int ((FE (z_up (z_up I 54 15 ((I 54 15) + 1)) 54 12 ((I 54 12) + 1))).1)), (1, .int (f_X9_byteAt I)), (0, .ref 54)] [.int (f_X9_wrong (m_X9_takes ((FE (z_up (z_up I 54 15 ((I 54 15) + 1)) 54 12 ((I 54 12) + 1))).2) 41))] SH ((m_X9_wrong (m_X9_takes ((FE (z_up (z_up I 54 15 ((I 54 15) + 1)) 54 12 ((I 54 12) + 1))).2) 41)), L, z_R b) 0 0 _
                    exact p_iret (z_dec zd_X9_one 54 rfl) rfl ⟨(by unfold f_X9_one; rw [if_pos h4, if_neg h17, if_neg h23, if_pos h29, if_neg h38, if_pos h96]), rfl, (z_3 (by unfold m_X9_one; rw [if_pos h4, if_neg h17, if_neg h23, if_pos h29, if_neg h38, if_pos h96]) rfl)⟩
            · refine p_aload_n (z_dec zd_X9_one 21 rfl) rfl 1 rfl (n := 42) rfl ?_
              refine q_callV (As := []) (rest := []) (z_dec zd_X9_one 22 rfl) zk_X9_181 zv_X9_wrong (c_X9_wrong (d - 1) (by omega) b I L) rfl ⟨_, _, rfl⟩ rfl rfl (Nat.le_of_ble_eq_true rfl) (by omega) (n := 45) rfl ?_
              show PW zm_X9_one d 45 [(1, .int (f_X9_byteAt I)), (0, .ref 54)] [.int (f_X9_wrong I)] SH ((m_X9_wrong I), L, z_R b) 0 0 _
              exact p_iret (z_dec zd_X9_one 23 rfl) rfl ⟨(by unfold f_X9_one; rw [if_pos h4, if_neg h17, if_neg h23, if_pos h29, if_pos h38]), rfl, (z_3 (by unfold m_X9_one; rw [if_pos h4, if_neg h17, if_neg h23, if_pos h29, if_pos h38]) rfl)⟩
    · refine p_iconst (z_dec zd_X9_one 3 rfl) (v := 0) (by decide) (n := 8) rfl ?_
      exact p_iret (z_dec zd_X9_one 4 rfl) rfl ⟨(by unfold f_X9_one; rw [if_neg h4]), rfl, (z_3 (by unfold m_X9_one; rw [if_neg h4]) rfl)⟩
  exact hentry
