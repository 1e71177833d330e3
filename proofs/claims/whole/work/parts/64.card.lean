theorem z_bj {t : Nat} (h : t < 10) : nI t < 0 ∨ (nI t = nI (nI t).toNatClampNeg ∧ (nI t).toNatClampNeg < 10) := by
  rw [nI_clamp (by omega)]
  exact Or.inr ⟨rfl, h⟩
theorem z_nxt {I : Nat → Nat → Int32} {L : Nat → Nat → Int64} {np sh k : Nat} (hn10 : np ≤ 10) (hk : k < 100) (h : ¬ f_X9_isNext I L np sh k = 0) : k < 8 ∧ (f_X9_told L sh k 0 = nI (f_X9_told L sh k 0).toNatClampNeg ∧ (f_X9_told L sh k 0).toNatClampNeg < np) ∧ (f_X9_told L sh k 1 = nI (f_X9_told L sh k 1).toNatClampNeg ∧ (f_X9_told L sh k 1).toNatClampNeg < np) ∧ (f_X9_told L sh k 2 = nI (f_X9_told L sh k 2).toNatClampNeg ∧ (f_X9_told L sh k 2).toNatClampNeg < np) := by
  unfold f_X9_isNext at h
  by_cases h1 : 8 ≤ nI k
  · rw [if_pos h1] at h; exact absurd rfl h
  · rw [if_neg h1] at h
    by_cases h2 : I 76 sh ≤ 3 * nI k + 2
    · rw [if_pos h2] at h; exact absurd rfl h
    · rw [if_neg h2] at h
      by_cases h3 : f_X9_areThree np (L 77 ((60 * sh) + (3 * k))) (L 77 (((60 * sh) + (3 * k)) + 1)) (L 77 (((60 * sh) + (3 * k)) + 2)) = 0
      · rw [if_pos h3] at h; exact absurd rfl h
      · obtain ⟨a1, a2, a3⟩ := z_thrL hn10 h3
        have b1 := z_oneL hn10 a1
        have b2 := z_oneL hn10 a2
        have b3 := z_oneL hn10 a3
        exact ⟨z_nge (a := 8) h1, ⟨b1.1, b1.2.1⟩, ⟨b2.1, b2.2.1⟩, ⟨b3.1, b3.2.1⟩⟩
theorem z_rwI {I : Nat → Nat → Int32} {sh s : Int32} (h : 0 ≤ f_X9_rowIs I sh s) : sh = nI sh.toNatClampNeg ∧ sh.toNatClampNeg < 6 := by
  unfold f_X9_rowIs at h
  by_cases h1 : f_X9_isShelf sh = 0
  · rw [if_pos h1] at h; exact absurd h (by decide)
  · exact z_shf h1
theorem z_ihF (I : Nat → Nat → Int32) (x y z : Nat) (w : Int32) (a j : Nat) (h : a ≠ 64) : m_X9_isHeld I x y z w a j = I a j := by
  unfold m_X9_isHeld
  (repeat' split) <;> rw [z_up_k _ _ h, z_up_k _ _ h, z_up_k _ _ h]
theorem z_Gih {np : Nat} {I : Nat → Nat → Int32} (h : z_G np I) (x y z : Nat) (w : Int32) : z_G np (m_X9_isHeld I x y z w) := z_Gf h (z_ihF _ _ _ _ _ _ _ (by decide)) (z_ihF _ _ _ _ _ _ _ (by decide))
theorem z_eoG (I : Nat → Nat → Int32) (a j : Nat) (h2 : a ≠ 62) (h3 : a ≠ 63) (h4 : a ≠ 64) : ∀ i, (g_X9_endsDay_4 I i).2 a j = I a j
  | 0 => rfl
  | i + 1 => by
    have ih := z_eoG I a j h2 h3 h4 i
    show (gb_X9_endsDay_4 I i (g_X9_endsDay_4 I i)).2 a j = _
    unfold gb_X9_endsDay_4
    (repeat' split) <;> (simp only [z_up_k _ _ h4, z_up_k _ _ h3, z_up_k _ _ h2]; exact ih)
theorem z_enF (I : Nat → Nat → Int32) (np a j : Nat) (h1 : a ≠ 54 ∨ j ≠ 20) (h2 : a ≠ 62) (h3 : a ≠ 63) (h4 : a ≠ 64) : m_X9_endsDay I np a j = I a j := by
  unfold m_X9_endsDay
  have e : ∀ v, z_up (g_X9_endsDay_4 I np).2 54 20 v a j = I a j := fun v => by
    rcases h1 with h1 | h1
    · rw [z_up_k _ _ h1]; exact z_eoG I a j h2 h3 h4 np
    · by_cases q : a = 54
      · subst q; rw [z_up_j _ _ h1]; exact z_eoG I 54 j h2 h3 h4 np
      · rw [z_up_k _ _ q]; exact z_eoG I a j h2 h3 h4 np
  split <;> exact e _
theorem z_Gen {np m : Nat} {I : Nat → Nat → Int32} (h : z_G np I) : z_G np (m_X9_endsDay I m) := z_Gf h (z_enF _ _ _ _ (Or.inr (by decide)) (by decide) (by decide) (by decide)) (z_enF _ _ _ _ (Or.inr (by decide)) (by decide) (by decide) (by decide))
def gx_X9_bestJudge_50 (np : Nat) (ab : Int32) : Nat → Nat → (Int32) → (Nat → Nat → Int32) → Int32 × (Nat → Nat → Int32)
  | 0, t50, v2, Iv => (v2, Iv)
  | r50 + 1, t50, v2, Iv => if (f_X9_isIn (f_X9_judgesNow Iv np) (nI t50)) = 0 then gx_X9_bestJudge_50 np ab r50 (t50 + 1) v2 Iv else if (f_X9_areThree np ((ab / 10).toInt64) ((ab - ab / 10 * 10).toInt64) ((nI t50).toInt64)) = 0 then gx_X9_bestJudge_50 np ab r50 (t50 + 1) v2 Iv else if v2 < 0 then gx_X9_bestJudge_50 np ab r50 (t50 + 1) (nI t50) Iv else if (f_X9_oddsOf Iv ((ab / 10).toNatClampNeg) ((ab - ab / 10 * 10).toNatClampNeg) t50) ≤ (f_X9_oddsOf (m_X9_oddsOf Iv ((ab / 10).toNatClampNeg) ((ab - ab / 10 * 10).toNatClampNeg) t50) ((ab / 10).toNatClampNeg) ((ab - ab / 10 * 10).toNatClampNeg) v2.toNatClampNeg) then gx_X9_bestJudge_50 np ab r50 (t50 + 1) v2 (m_X9_oddsOf (m_X9_oddsOf Iv ((ab / 10).toNatClampNeg) ((ab - ab / 10 * 10).toNatClampNeg) t50) ((ab / 10).toNatClampNeg) ((ab - ab / 10 * 10).toNatClampNeg) v2.toNatClampNeg) else gx_X9_bestJudge_50 np ab r50 (t50 + 1) (nI t50) (m_X9_oddsOf (m_X9_oddsOf Iv ((ab / 10).toNatClampNeg) ((ab - ab / 10 * 10).toNatClampNeg) t50) ((ab / 10).toNatClampNeg) ((ab - ab / 10 * 10).toNatClampNeg) v2.toNatClampNeg)
def f_X9_bestJudge (I : Nat → Nat → Int32) (np : Nat) (ab : Int32) : Int32 := if ab < 0 then (-1) else if (f_X9_isOne np ((ab / 10).toInt64)) = 0 then (-1) else if (f_X9_isOne np ((ab - ab / 10 * 10).toInt64)) = 0 then (-1) else if (ab / 10) = (ab - ab / 10 * 10) then (-1) else (gx_X9_bestJudge_50 np ab np 0 (-2) (m_X9_begins I np)).1
def m_X9_bestJudge (I : Nat → Nat → Int32) (np : Nat) (ab : Int32) : Nat → Nat → Int32 := if ab < 0 then I else if (f_X9_isOne np ((ab / 10).toInt64)) = 0 then I else if (f_X9_isOne np ((ab - ab / 10 * 10).toInt64)) = 0 then I else if (ab / 10) = (ab - ab / 10 * 10) then I else (gx_X9_bestJudge_50 np ab np 0 (-2) (m_X9_begins I np)).2
set_option maxHeartbeats 1000000 in
set_option maxRecDepth 100000 in
theorem c_X9_bestJudge (d : Nat) (hd : 57 ≤ d) (b : Bool) (I : Nat → Nat → Int32) (L : Nat → Nat → Int64) (np : Nat) (hn10 : np ≤ 10) (hG : z_G np I) (ab : Int32) : z_CT zm_X9_bestJudge d [.ref 54, .int ab] SH (I, L, z_R b) 0 0 (z_ret (some (.int (f_X9_bestJudge I np ab))) ((m_X9_bestJudge I np ab), L, z_R b)) := by
  refine z_enter (by decide +kernel) (Nat.le_of_ble_eq_true rfl) ?_
  have hentry : PW zm_X9_bestJudge d 0 [(0, .ref 54), (1, .int ab)] [] SH (I, L, z_R b) 0 0 (z_ret (some (.int (f_X9_bestJudge I np ab))) ((m_X9_bestJudge I np ab), L, z_R b)) := by
    refine p_iload_n (z_dec zd_X9_bestJudge 0 rfl) rfl 1 rfl (n := 1) rfl ?_
    refine p_if_lt (z_dec zd_X9_bestJudge 1 rfl) (t := 39) (by decide) (n := 4) rfl (fun h1 => ?_) (fun h1 => ?_)
    · refine p_iconst (z_dec zd_X9_bestJudge 23 rfl) (v := (-1)) (by decide) (n := 40) rfl ?_
      exact p_iret (z_dec zd_X9_bestJudge 24 rfl) rfl ⟨(by unfold f_X9_bestJudge; rw [if_pos h1]), rfl, (z_3 (by unfold m_X9_bestJudge; rw [if_pos h1]) rfl)⟩
    · refine p_aload_n (z_dec zd_X9_bestJudge 2 rfl) rfl 0 rfl (n := 5) rfl ?_
      refine p_iload_n (z_dec zd_X9_bestJudge 3 rfl) rfl 1 rfl (n := 6) rfl ?_
      refine p_bipush (z_dec zd_X9_bestJudge 4 rfl) (v := 10) (by decide) (n := 8) rfl ?_
      refine p_idiv (z_dec zd_X9_bestJudge 5 rfl) (by decide) (n := 9) rfl ?_
      refine p_i2l (z_dec zd_X9_bestJudge 6 rfl) (n := 10) rfl ?_
      refine q_callV (As := [.long ((ab / 10).toInt64)]) (rest := []) (z_dec zd_X9_bestJudge 7 rfl) zk_X9_121 zv_X9_isOne (c_X9_isOne (d - 1) (by omega) b I L np hG.1 hn10 ((ab / 10).toInt64)) rfl ⟨_, _, rfl⟩ rfl rfl (Nat.le_of_ble_eq_true rfl) (by omega) (n := 13) rfl ?_
      show PW zm_X9_bestJudge d 13 [(0, .ref 54), (1, .int ab)] [.int (f_X9_isOne np ((ab / 10).toInt64))] SH (I, L, z_R b) 0 0 _
      refine p_if_eq (z_dec zd_X9_bestJudge 8 rfl) (t := 39) (by decide) (n := 16) rfl (fun h13 => ?_) (fun h13 => ?_)
      · refine p_iconst (z_dec zd_X9_bestJudge 23 rfl) (v := (-1)) (by decide) (n := 40) rfl ?_
        exact p_iret (z_dec zd_X9_bestJudge 24 rfl) rfl ⟨(by unfold f_X9_bestJudge; rw [if_neg h1, if_pos h13]), rfl, (z_3 (by unfold m_X9_bestJudge; rw [if_neg h1, if_pos h13]) rfl)⟩
      · have hb1 := z_one hn10 h13
        refine p_aload_n (z_dec zd_X9_bestJudge 9 rfl) rfl 0 rfl (n := 17) rfl ?_
        refine p_iload_n (z_dec zd_X9_bestJudge 10 rfl) rfl 1 rfl (n := 18) rfl ?_
        refine p_bipush (z_dec zd_X9_bestJudge 11 rfl) (v := 10) (by decide) (n := 20) rfl ?_
        refine p_irem (z_dec zd_X9_bestJudge 12 rfl) (by decide) (n := 21) rfl ?_
        refine p_i2l (z_dec zd_X9_bestJudge 13 rfl) (n := 22) rfl ?_
        refine q_callV (As := [.long ((ab - ab / 10 * 10).toInt64)]) (rest := []) (z_dec zd_X9_bestJudge 14 rfl) zk_X9_121 zv_X9_isOne (c_X9_isOne (d - 1) (by omega) b I L np hG.1 hn10 ((ab - ab / 10 * 10).toInt64)) rfl ⟨_, _, rfl⟩ rfl rfl (Nat.le_of_ble_eq_true rfl) (by omega) (n := 25) rfl ?_
        show PW zm_X9_bestJudge d 25 [(0, .ref 54), (1, .int ab)] [.int (f_X9_isOne np ((ab - ab / 10 * 10).toInt64))] SH (I, L, z_R b) 0 0 _
        refine p_if_eq (z_dec zd_X9_bestJudge 15 rfl) (t := 39) (by decide) (n := 28) rfl (fun h25 => ?_) (fun h25 => ?_)
        · refine p_iconst (z_dec zd_X9_bestJudge 23 rfl) (v := (-1)) (by decide) (n := 40) rfl ?_
          exact p_iret (z_dec zd_X9_bestJudge 24 rfl) rfl ⟨(by unfold f_X9_bestJudge; rw [if_neg h1, if_neg h13, if_pos h25]), rfl, (z_3 (by unfold m_X9_bestJudge; rw [if_neg h1, if_neg h13, if_pos h25]) rfl)⟩
        · have hb2 := z_one hn10 h25
          refine p_iload_n (z_dec zd_X9_bestJudge 16 rfl) rfl 1 rfl (n := 29) rfl ?_
          refine p_bipush (z_dec zd_X9_bestJudge 17 rfl) (v := 10) (by decide) (n := 31) rfl ?_
          refine p_idiv (z_dec zd_X9_bestJudge 18 rfl) (by decide) (n := 32) rfl ?_
          refine p_iload_n (z_dec zd_X9_bestJudge 19 rfl) rfl 1 rfl (n := 33) rfl ?_
          refine p_bipush (z_dec zd_X9_bestJudge 20 rfl) (v := 10) (by decide) (n := 35) rfl ?_
          refine p_irem (z_dec zd_X9_bestJudge 21 rfl) (by decide) (n := 36) rfl ?_
          refine p_icmp_ne (z_dec zd_X9_bestJudge 22 rfl) (t := 41) (by decide) (n := 39) rfl (fun h36 => ?_) (fun h36 => ?_)
          · refine p_aload_n (z_dec zd_X9_bestJudge 25 rfl) rfl 0 rfl (n := 42) rfl ?_
            refine q_callV (As := []) (rest := []) (z_dec zd_X9_bestJudge 26 rfl) zk_X9_206 zv_X9_begins (c_X9_begins (d - 1) (by omega) b I L np hG.1 hn10) rfl ⟨_, _, rfl⟩ rfl rfl (Nat.le_of_ble_eq_true rfl) (by omega) (n := 45) rfl ?_
            show PW zm_X9_bestJudge d 45 [(0, .ref 54), (1, .int ab)] [] SH ((m_X9_begins I np), L, z_R b) 0 0 _
            have hP45 : z_G np ((m_X9_begins I np)) := z_Gbg hG
            refine p_bipush (z_dec zd_X9_bestJudge 27 rfl) (v := (-2)) (by decide) (n := 47) rfl ?_
            refine p_istore_n (z_dec zd_X9_bestJudge 28 rfl) rfl (lv2 := [(2, .int (-2)), (0, .ref 54), (1, .int ab)]) (by decide) rfl (n := 48) rfl ?_
            refine p_iconst (z_dec zd_X9_bestJudge 29 rfl) (v := 0) (by decide) (n := 49) rfl ?_
            refine p_istore_n (z_dec zd_X9_bestJudge 30 rfl) rfl (lv2 := [(3, .int 0), (2, .int (-2)), (0, .ref 54), (1, .int ab)]) (by decide) rfl (n := 50) rfl ?_
            have hL50 : ∀ (r50 t50 : Nat) (v2 : Int32) (Iv : Nat → Nat → Int32), t50 + r50 = np → (z_G np Iv ∧ (v2 < 0 ∨ (v2 = nI v2.toNatClampNeg ∧ v2.toNatClampNeg < 10))) → PW zm_X9_bestJudge d 50 [(3, .int (nI t50)), (2, .int v2), (0, .ref 54), (1, .int ab)] [] SH (Iv, L, z_R b) 0 0 (z_ret (some (.int (gx_X9_bestJudge_50 np ab r50 t50 v2 Iv).1)) ((gx_X9_bestJudge_50 np ab r50 t50 v2 Iv).2, L, z_R b)) := by
              intro r50
              induction r50 with
              | zero =>
                intro t50 v2 Iv ht50 hlo
                refine p_iload_n (z_dec zd_X9_bestJudge 31 rfl) rfl 0 rfl (n := 51) rfl ?_
                refine p_aload_n (z_dec zd_X9_bestJudge 32 rfl) rfl 2 rfl (n := 52) rfl ?_
                refine q_getI (z_dec zd_X9_bestJudge 33 rfl) zf_X9_93 (by decide) rfl (v := (nI np)) hlo.1.1 (n := 55) rfl ?_
                refine p_icmp_ge (z_dec zd_X9_bestJudge 34 rfl) (t := 133) (by decide) (n := 58) rfl (fun h55 => ?_) (fun h55 => ?_)
                · refine p_iload_n (z_dec zd_X9_bestJudge 80 rfl) rfl 1 rfl (n := 134) rfl ?_
                  exact p_iret (z_dec zd_X9_bestJudge 81 rfl) rfl ⟨rfl, rfl, (z_3 rfl rfl)⟩
                · exact absurd (z_nge (a := np) h55) (by omega)
              | succ r50 ih50 =>
                intro t50 v2 Iv ht50 hlo
                refine p_iload_n (z_dec zd_X9_bestJudge 31 rfl) rfl 0 rfl (n := 51) rfl ?_
                refine p_aload_n (z_dec zd_X9_bestJudge 32 rfl) rfl 2 rfl (n := 52) rfl ?_
                refine q_getI (z_dec zd_X9_bestJudge 33 rfl) zf_X9_93 (by decide) rfl (v := (nI np)) hlo.1.1 (n := 55) rfl ?_
                refine p_icmp_ge (z_dec zd_X9_bestJudge 34 rfl) (t := 133) (by decide) (n := 58) rfl (fun h55 => ?_) (fun h55 => ?_)
                · exact absurd (z_ge (a := np) h55) (by omega)
                · have hx50 : t50 < np := by omega
                  refine p_aload_n (z_dec zd_X9_bestJudge 35 rfl) rfl 2 rfl (n := 59) rfl ?_
                  refine q_callV (As := []) (rest := []) (z_dec zd_X9_bestJudge 36 rfl) zk_X9_213 zv_X9_judgesNow (c_X9_judgesNow (d - 1) (by omega) b Iv L np hlo.1.1 hn10) rfl ⟨_, _, rfl⟩ rfl rfl (Nat.le_of_ble_eq_true rfl) (by omega) (n := 62) rfl ?_
                  show PW zm_X9_bestJudge d 62 [(3, .int (nI t50)), (2, .int v2), (0, .ref 54), (1, .int ab)] [.int (f_X9_judgesNow Iv np)] SH (Iv, L, z_R b) 0 0 _
                  refine p_iload_n (z_dec zd_X9_bestJudge 37 rfl) rfl 0 rfl (n := 63) rfl ?_
                  refine q_callS (As := [.int (f_X9_judgesNow Iv np), .int (nI t50)]) (rest := []) (z_dec zd_X9_bestJudge 38 rfl) zk_X9_216 zs_X9_isIn (c_X9_isIn (d - 1) (by omega) b Iv L (f_X9_judgesNow Iv np) (nI t50)) rfl rfl (Nat.le_of_ble_eq_true rfl) (by omega) (n := 66) rfl ?_
                  show PW zm_X9_bestJudge d 66 [(3, .int (nI t50)), (2, .int v2), (0, .ref 54), (1, .int ab)] [.int (f_X9_isIn (f_X9_judgesNow Iv np) (nI t50))] SH (Iv, L, z_R b) 0 0 _
                  refine p_if_eq (z_dec zd_X9_bestJudge 39 rfl) (t := 127) (by decide) (n := 69) rfl (fun h66 => ?_) (fun h66 => ?_)
                  · refine p_iinc (z_dec zd_X9_bestJudge 78 rfl) 0 rfl (v := (nI (t50 + 1))) (nI_1 _) (lv2 := [(3, .int (nI (t50 + 1))), (2, .int v2), (0, .ref 54), (1, .int ab)]) (by decide) rfl (n := 130) rfl ?_
                    refine p_goto (z_dec zd_X9_bestJudge 79 rfl) (t := 50) (by decide) ?_
                    rw [show gx_X9_bestJudge_50 np ab (r50 + 1) t50 v2 Iv = gx_X9_bestJudge_50 np ab r50 (t50 + 1) v2 Iv from by (conv => lhs; unfold gx_X9_bestJudge_50); rw [if_pos h66]]
                    exact ih50 (t50 + 1) v2 Iv (by omega) ⟨hlo.1, hlo.2⟩
                  · refine p_aload_n (z_dec zd_X9_bestJudge 40 rfl) rfl 2 rfl (n := 70) rfl ?_
                    refine p_iload_n (z_dec zd_X9_bestJudge 41 rfl) rfl 3 rfl (n := 71) rfl ?_
                    refine p_bipush (z_dec zd_X9_bestJudge 42 rfl) (v := 10) (by decide) (n := 73) rfl ?_
                    refine p_idiv (z_dec zd_X9_bestJudge 43 rfl) (by decide) (n := 74) rfl ?_
                    refine p_i2l (z_dec zd_X9_bestJudge 44 rfl) (n := 75) rfl ?_
                    refine p_iload_n (z_dec zd_X9_bestJudge 45 rfl) rfl 3 rfl (n := 76) rfl ?_
                    refine p_bipush (z_dec zd_X9_bestJudge 46 rfl) (v := 10) (by decide) (n := 78) rfl ?_
                    refine p_irem (z_dec zd_X9_bestJudge 47 rfl) (by decide) (n := 79) rfl ?_
                    refine p_i2l (z_dec zd_X9_bestJudge 48 rfl) (n := 80) rfl ?_
                    refine p_iload_n (z_dec zd_X9_bestJudge 49 rfl) rfl 0 rfl (n := 81) rfl ?_
                    refine p_i2l (z_dec zd_X9_bestJudge 50 rfl) (n := 82) rfl ?_
                    refine q_callV (As := [.long ((ab / 10).toInt64), .long ((ab - ab / 10 * 10).toInt64), .long ((nI t50).toInt64)]) (rest := []) (z_dec zd_X9_bestJudge 51 rfl) zk_X9_200 zv_X9_areThree (c_X9_areThree (d - 1) (by omega) b Iv L np hlo.1.1 hn10 ((ab / 10).toInt64) ((ab - ab / 10 * 10).toInt64) ((nI t50).toInt64)) rfl ⟨_, _, rfl⟩ rfl rfl (Nat.le_of_ble_eq_true rfl) (by omega) (n := 85) rfl ?_
                    show PW zm_X9_bestJudge d 85 [(3, .int (nI t50)), (2, .int v2), (0, .ref 54), (1, .int ab)] [.int (f_X9_areThree np ((ab / 10).toInt64) ((ab - ab / 10 * 10).toInt64) ((nI t50).toInt64))] SH (Iv, L, z_R b) 0 0 _
                    refine p_if_eq (z_dec zd_X9_bestJudge 52 rfl) (t := 127) (by decide) (n := 88) rfl (fun h85 => ?_) (fun h85 => ?_)
                    · refine p_iinc (z_dec zd_X9_bestJudge 78 rfl) 0 rfl (v := (nI (t50 + 1))) (nI_1 _) (lv2 := [(3, .int (nI (t50 + 1))), (2, .int v2), (0, .ref 54), (1, .int ab)]) (by decide) rfl (n := 130) rfl ?_
                      refine p_goto (z_dec zd_X9_bestJudge 79 rfl) (t := 50) (by decide) ?_
                      rw [show gx_X9_bestJudge_50 np ab (r50 + 1) t50 v2 Iv = gx_X9_bestJudge_50 np ab r50 (t50 + 1) v2 Iv from by (conv => lhs; unfold gx_X9_bestJudge_50); rw [if_neg h66, if_pos h85]]
                      exact ih50 (t50 + 1) v2 Iv (by omega) ⟨hlo.1, hlo.2⟩
                    · have hu := z_thr3 hn10 h85
                      refine p_iload_n (z_dec zd_X9_bestJudge 53 rfl) rfl 1 rfl (n := 89) rfl ?_
                      refine p_if_lt (z_dec zd_X9_bestJudge 54 rfl) (t := 121) (by decide) (n := 92) rfl (fun h89 => ?_) (fun h89 => ?_)
                      · refine p_iload_n (z_dec zd_X9_bestJudge 74 rfl) rfl 0 rfl (n := 122) rfl ?_
                        refine p_goto (z_dec zd_X9_bestJudge 75 rfl) (t := 126) (by decide) ?_
                        refine p_istore_n (z_dec zd_X9_bestJudge 77 rfl) rfl (lv2 := [(2, .int (nI t50)), (3, .int (nI t50)), (0, .ref 54), (1, .int ab)]) (by decide) rfl (n := 127) rfl ?_
                        refine p_iinc (z_dec zd_X9_bestJudge 78 rfl) 1 rfl (v := (nI (t50 + 1))) (nI_1 _) (lv2 := [(3, .int (nI (t50 + 1))), (2, .int (nI t50)), (0, .ref 54), (1, .int ab)]) (by decide) rfl (n := 130) rfl ?_
                        refine p_goto (z_dec zd_X9_bestJudge 79 rfl) (t := 50) (by decide) ?_
                        rw [show gx_X9_bestJudge_50 np ab (r50 + 1) t50 v2 Iv = gx_X9_bestJudge_50 np ab r50 (t50 + 1) (nI t50) Iv from by (conv => lhs; unfold gx_X9_bestJudge_50); rw [if_neg h66, if_neg h85, if_pos h89]]
                        exact ih50 (t50 + 1) (nI t50) Iv (by omega) ⟨hlo.1, z_bj (by omega)⟩
                      · refine p_aload_n (z_dec zd_X9_bestJudge 55 rfl) rfl 2 rfl (n := 93) rfl ?_
                        refine p_iload_n (z_dec zd_X9_bestJudge 56 rfl) rfl 3 rfl (n := 94) rfl ?_
                        refine p_bipush (z_dec zd_X9_bestJudge 57 rfl) (v := 10) (by decide) (n := 96) rfl ?_
                        refine p_idiv (z_dec zd_X9_bestJudge 58 rfl) (by decide) (n := 97) rfl ?_
                        refine p_iload_n (z_dec zd_X9_bestJudge 59 rfl) rfl 3 rfl (n := 98) rfl ?_
                        refine p_bipush (z_dec zd_X9_bestJudge 60 rfl) (v := 10) (by decide) (n := 100) rfl ?_
                        refine p_irem (z_dec zd_X9_bestJudge 61 rfl) (by decide) (n := 101) rfl ?_
                        refine p_iload_n (z_dec zd_X9_bestJudge 62 rfl) rfl 0 rfl (n := 102) rfl ?_
                        refine q_callV (As := [.int (nI ((ab / 10).toNatClampNeg)), .int (nI ((ab - ab / 10 * 10).toNatClampNeg)), .int (nI t50)]) (rest := []) (z_dec zd_X9_bestJudge 63 rfl) zk_X9_209 zv_X9_oddsOf (c_X9_oddsOf (d - 1) (by omega) b Iv L ((ab / 10).toNatClampNeg) (Nat.lt_of_lt_of_le hb1.2 hn10) ((ab - ab / 10 * 10).toNatClampNeg) (Nat.lt_of_lt_of_le hb2.2 hn10) t50 (by omega) hlo.1.2) rfl ⟨_, _, rfl⟩ (by simp only [← hb1.1, ← hb2.1]; rfl) rfl (Nat.le_of_ble_eq_true rfl) (by omega) (n := 105) rfl ?_
                        show PW zm_X9_bestJudge d 105 [(3, .int (nI t50)), (2, .int v2), (0, .ref 54), (1, .int ab)] [.int (f_X9_oddsOf Iv ((ab / 10).toNatClampNeg) ((ab - ab / 10 * 10).toNatClampNeg) t50)] SH ((m_X9_oddsOf Iv ((ab / 10).toNatClampNeg) ((ab - ab / 10 * 10).toNatClampNeg) t50), L, z_R b) 0 0 _
                        have hP105 : z_G np ((m_X9_oddsOf Iv ((ab / 10).toNatClampNeg) ((ab - ab / 10 * 10).toNatClampNeg) t50)) := z_Goo hlo.1 _ _ _
                        refine p_aload_n (z_dec zd_X9_bestJudge 64 rfl) rfl 2 rfl (n := 106) rfl ?_
                        refine p_iload_n (z_dec zd_X9_bestJudge 65 rfl) rfl 3 rfl (n := 107) rfl ?_
                        refine p_bipush (z_dec zd_X9_bestJudge 66 rfl) (v := 10) (by decide) (n := 109) rfl ?_
                        refine p_idiv (z_dec zd_X9_bestJudge 67 rfl) (by decide) (n := 110) rfl ?_
                        refine p_iload_n (z_dec zd_X9_bestJudge 68 rfl) rfl 3 rfl (n := 111) rfl ?_
                        refine p_bipush (z_dec zd_X9_bestJudge 69 rfl) (v := 10) (by decide) (n := 113) rfl ?_
                        refine p_irem (z_dec zd_X9_bestJudge 70 rfl) (by decide) (n := 114) rfl ?_
                        refine p_iload_n (z_dec zd_X9_bestJudge 71 rfl) rfl 1 rfl (n := 115) rfl ?_
                        refine q_callV (As := [.int (nI ((ab / 10).toNatClampNeg)), .int (nI ((ab - ab / 10 * 10).toNatClampNeg)), .int (nI v2.toNatClampNeg)]) (rest := [.int (f_X9_oddsOf Iv ((ab / 10).toNatClampNeg) ((ab - ab / 10 * 10).toNatClampNeg) t50)]) (z_dec zd_X9_bestJudge 72 rfl) zk_X9_209 zv_X9_oddsOf (c_X9_oddsOf (d - 1) (by omega) b (m_X9_oddsOf Iv ((ab / 10).toNatClampNeg) ((ab - ab / 10 * 10).toNatClampNeg) t50) L ((ab / 10).toNatClampNeg) (Nat.lt_of_lt_of_le hb1.2 hn10) ((ab - ab / 10 * 10).toNatClampNeg) (Nat.lt_of_lt_of_le hb2.2 hn10) v2.toNatClampNeg ((hlo.2.resolve_left h89).2) hP105.2) rfl ⟨_, _, rfl⟩ (by simp only [← hb1.1, ← hb2.1, ← (hlo.2.resolve_left h89).1]; rfl) rfl (Nat.le_of_ble_eq_true rfl) (by omega) (n := 118) rfl ?_
                        show PW zm_X9_bestJudge d 118 [(3, .int (nI t50)), (2, .int v2), (0, .ref 54), (1, .int ab)] [.int (f_X9_oddsOf (m_X9_oddsOf Iv ((ab / 10).toNatClampNeg) ((ab - ab / 10 * 10).toNatClampNeg) t50) ((ab / 10).toNatClampNeg) ((ab - ab / 10 * 10).toNatClampNeg) v2.toNatClampNeg), .int (f_X9_oddsOf Iv ((ab / 10).toNatClampNeg) ((ab - ab / 10 * 10).toNatClampNeg) t50)] SH ((m_X9_oddsOf (m_X9_oddsOf Iv ((ab / 10).toNatClampNeg) ((ab - ab / 10 * 10).toNatClampNeg) t50) ((ab / 10).toNatClampNeg) ((ab - ab / 10 * 10).toNatClampNeg) v2.toNatClampNeg), L, z_R b) 0 0 _
                        have hP118 : z_G np ((m_X9_oddsOf (m_X9_oddsOf Iv ((ab / 10).toNatClampNeg) ((ab - ab / 10 * 10).toNatClampNeg) t50) ((ab / 10).toNatClampNeg) ((ab - ab / 10 * 10).toNatClampNeg) v2.toNatClampNeg)) := z_Goo hP105 _ _ _
                        refine p_icmp_le (z_dec zd_X9_bestJudge 73 rfl) (t := 125) (by decide) (n := 121) rfl (fun h118 => ?_) (fun h118 => ?_)
                        · refine p_iload_n (z_dec zd_X9_bestJudge 76 rfl) rfl 1 rfl (n := 126) rfl ?_
                          refine p_istore_n (z_dec zd_X9_bestJudge 77 rfl) rfl (lv2 := [(2, .int v2), (3, .int (nI t50)), (0, .ref 54), (1, .int ab)]) (by decide) rfl (n := 127) rfl ?_
                          refine p_iinc (z_dec zd_X9_bestJudge 78 rfl) 1 rfl (v := (nI (t50 + 1))) (nI_1 _) (lv2 := [(3, .int (nI (t50 + 1))), (2, .int v2), (0, .ref 54), (1, .int ab)]) (by decide) rfl (n := 130) rfl ?_
                          refine p_goto (z_dec zd_X9_bestJudge 79 rfl) (t := 50) (by decide) ?_
                          rw [show gx_X9_bestJudge_50 np ab (r50 + 1) t50 v2 Iv = gx_X9_bestJudge_50 np ab r50 (t50 + 1) v2 (m_X9_oddsOf (m_X9_oddsOf Iv ((ab / 10).toNatClampNeg) ((ab - ab / 10 * 10).toNatClampNeg) t50) ((ab / 10).toNatClampNeg) ((ab - ab / 10 * 10).toNatClampNeg) v2.toNatClampNeg) from by (conv => lhs; unfold gx_X9_bestJudge_50); rw [if_neg h66, if_neg h85, if_neg h89, if_pos h118]]
                          exact ih50 (t50 + 1) v2 (m_X9_oddsOf (m_X9_oddsOf Iv ((ab / 10).toNatClampNeg) ((ab - ab / 10 * 10).toNatClampNeg) t50) ((ab / 10).toNatClampNeg) ((ab - ab / 10 * 10).toNatClampNeg) v2.toNatClampNeg) (by omega) ⟨hP118, hlo.2⟩
                        · refine p_iload_n (z_dec zd_X9_bestJudge 74 rfl) rfl 0 rfl (n := 122) rfl ?_
                          refine p_goto (z_dec zd_X9_bestJudge 75 rfl) (t := 126) (by decide) ?_
                          refine p_istore_n (z_dec zd_X9_bestJudge 77 rfl) rfl (lv2 := [(2, .int (nI t50)), (3, .int (nI t50)), (0, .ref 54), (1, .int ab)]) (by decide) rfl (n := 127) rfl ?_
                          refine p_iinc (z_dec zd_X9_bestJudge 78 rfl) 1 rfl (v := (nI (t50 + 1))) (nI_1 _) (lv2 := [(3, .int (nI (t50 + 1))), (2, .int (nI t50)), (0, .ref 54), (1, .int ab)]) (by decide) rfl (n := 130) rfl ?_
                          refine p_goto (z_dec zd_X9_bestJudge 79 rfl) (t := 50) (by decide) ?_
                          rw [show gx_X9_bestJudge_50 np ab (r50 + 1) t50 v2 Iv = gx_X9_bestJudge_50 np ab r50 (t50 + 1) (nI t50) (m_X9_oddsOf (m_X9_oddsOf Iv ((ab / 10).toNatClampNeg) ((ab - ab / 10 * 10).toNatClampNeg) t50) ((ab / 10).toNatClampNeg) ((ab - ab / 10 * 10).toNatClampNeg) v2.toNatClampNeg) from by (conv => lhs; unfold gx_X9_bestJudge_50); rw [if_neg h66, if_neg h85, if_neg h89, if_neg h118]]
                          exact ih50 (t50 + 1) (nI t50) (m_X9_oddsOf (m_X9_oddsOf Iv ((ab / 10).toNatClampNeg) ((ab - ab / 10 * 10).toNatClampNeg) t50) ((ab / 10).toNatClampNeg) ((ab - ab / 10 * 10).toNatClampNeg) v2.toNatClampNeg) (by omega) ⟨hP118, z_bj (by omega)⟩
            exact (by have q := (hL50 np 0 (-2) (m_X9_begins I np) (by omega) ⟨hP45, Or.inl (by decide)⟩); (rw [show f_X9_bestJudge I np ab = _ from by unfold f_X9_bestJudge; rw [if_neg h1, if_neg h13, if_neg h25, if_neg h36]]); (rw [show m_X9_bestJudge I np ab = _ from by unfold m_X9_bestJudge; rw [if_neg h1, if_neg h13, if_neg h25, if_neg h36]]); exact q)
          · refine p_iconst (z_dec zd_X9_bestJudge 23 rfl) (v := (-1)) (by decide) (n := 40) rfl ?_
            exact p_iret (z_dec zd_X9_bestJudge 24 rfl) rfl ⟨(by unfold f_X9_bestJudge; rw [if_neg h1, if_neg h13, if_neg h25, if_pos h36]), rfl, (z_3 (by unfold m_X9_bestJudge; rw [if_neg h1, if_neg h13, if_neg h25, if_pos h36]) rfl)⟩
  exact hentry
def gx_X9_goesCard_4 (L : Nat → Nat → Int64) (np : Nat) (sh : Nat) : Nat → Nat → (Int32) → (Nat → Nat → Int32) → Int32 × (Nat → Nat → Int32)
  | 0, t4, v3, Iv => (0, Iv)
  | r4 + 1, t4, v3, Iv => if (f_X9_isNext Iv L np sh t4) = 0 then (((16 * v3) + (nI t4)), Iv) else if (f_X9_oddsOf Iv ((f_X9_told L sh t4 0).toNatClampNeg) ((f_X9_told L sh t4 1).toNatClampNeg) ((f_X9_told L sh t4 2).toNatClampNeg)) < 6 then gx_X9_goesCard_4 L np sh r4 (t4 + 1) (v3 ||| ((1 : Int32) <<< ((f_X9_told L sh t4 0) &&& 31))) (m_X9_isHeld (m_X9_oddsOf Iv ((f_X9_told L sh t4 0).toNatClampNeg) ((f_X9_told L sh t4 1).toNatClampNeg) ((f_X9_told L sh t4 2).toNatClampNeg)) ((f_X9_told L sh t4 0).toNatClampNeg) ((f_X9_told L sh t4 1).toNatClampNeg) ((f_X9_told L sh t4 2).toNatClampNeg) 0) else gx_X9_goesCard_4 L np sh r4 (t4 + 1) (v3 ||| ((1 : Int32) <<< ((f_X9_told L sh t4 1) &&& 31))) (m_X9_isHeld (m_X9_oddsOf Iv ((f_X9_told L sh t4 0).toNatClampNeg) ((f_X9_told L sh t4 1).toNatClampNeg) ((f_X9_told L sh t4 2).toNatClampNeg)) ((f_X9_told L sh t4 0).toNatClampNeg) ((f_X9_told L sh t4 1).toNatClampNeg) ((f_X9_told L sh t4 2).toNatClampNeg) 1)
def f_X9_goesCard (I : Nat → Nat → Int32) (L : Nat → Nat → Int64) (np : Nat) (sh : Nat) : Int32 := (gx_X9_goesCard_4 L np sh 9 0 0 I).1
def m_X9_goesCard (I : Nat → Nat → Int32) (L : Nat → Nat → Int64) (np : Nat) (sh : Nat) : Nat → Nat → Int32 := (gx_X9_goesCard_4 L np sh 9 0 0 I).2
set_option maxHeartbeats 1000000 in
set_option maxRecDepth 100000 in
theorem c_X9_goesCard (d : Nat) (hd : 56 ≤ d) (b : Bool) (I : Nat → Nat → Int32) (L : Nat → Nat → Int64) (np : Nat) (hn10 : np ≤ 10) (hG : z_G np I) (sh : Nat) (hsh : sh < 6) : z_CT zm_X9_goesCard d [.ref 54, .int (nI sh)] SH (I, L, z_R b) 0 0 (z_ret (some (.int (f_X9_goesCard I L np sh))) ((m_X9_goesCard I L np sh), L, z_R b)) := by
  refine z_enter (by decide +kernel) (Nat.le_of_ble_eq_true rfl) ?_
  have hentry : PW zm_X9_goesCard d 0 [(0, .ref 54), (1, .int (nI sh))] [] SH (I, L, z_R b) 0 0 (z_ret (some (.int (f_X9_goesCard I L np sh))) ((m_X9_goesCard I L np sh), L, z_R b)) := by
    refine p_iconst (z_dec zd_X9_goesCard 0 rfl) (v := 0) (by decide) (n := 1) rfl ?_
    refine p_istore_n (z_dec zd_X9_goesCard 1 rfl) rfl (lv2 := [(2, .int 0), (0, .ref 54), (1, .int (nI sh))]) (by decide) rfl (n := 2) rfl ?_
    refine p_iconst (z_dec zd_X9_goesCard 2 rfl) (v := 0) (by decide) (n := 3) rfl ?_
    refine p_istore_n (z_dec zd_X9_goesCard 3 rfl) rfl (lv2 := [(3, .int 0), (2, .int 0), (0, .ref 54), (1, .int (nI sh))]) (by decide) rfl (n := 4) rfl ?_
    have hL4 : ∀ (r4 t4 : Nat) (v3 : Int32) (Iv : Nat → Nat → Int32), 8 - t4 < r4 → (z_G np Iv ∧ t4 ≤ 8) → PW zm_X9_goesCard d 4 [(3, .int v3), (2, .int (nI t4)), (0, .ref 54), (1, .int (nI sh))] [] SH (Iv, L, z_R b) 0 0 (z_ret (some (.int (gx_X9_goesCard_4 L np sh r4 t4 v3 Iv).1)) ((gx_X9_goesCard_4 L np sh r4 t4 v3 Iv).2, L, z_R b)) := by
      intro r4
      induction r4 with
      | zero =>
        intro t4 v3 Iv ht4 hlo
        exact absurd ht4 (Nat.not_lt_zero _)
      | succ r4 ih4 =>
        intro t4 v3 Iv ht4 hlo
        refine p_aload_n (z_dec zd_X9_goesCard 4 rfl) rfl 2 rfl (n := 5) rfl ?_
        refine p_iload_n (z_dec zd_X9_goesCard 5 rfl) rfl 3 rfl (n := 6) rfl ?_
        refine p_iload_n (z_dec zd_X9_goesCard 6 rfl) rfl 1 rfl (n := 7) rfl ?_
        refine q_callV (As := [.int (nI sh), .int (nI t4)]) (rest := []) (z_dec zd_X9_goesCard 7 rfl) zk_X9_223 zv_X9_isNext (c_X9_isNext (d - 1) (by omega) b Iv L np hlo.1.1 hn10 sh (by omega) t4 (by omega)) rfl ⟨_, _, rfl⟩ rfl rfl (Nat.le_of_ble_eq_true rfl) (by omega) (n := 10) rfl ?_
        show PW zm_X9_goesCard d 10 [(3, .int v3), (2, .int (nI t4)), (0, .ref 54), (1, .int (nI sh))] [.int (f_X9_isNext Iv L np sh t4)] SH (Iv, L, z_R b) 0 0 _
        refine p_if_eq (z_dec zd_X9_goesCard 8 rfl) (t := 98) (by decide) (n := 13) rfl (fun h10 => ?_) (fun h10 => ?_)
        · refine p_bipush (z_dec zd_X9_goesCard 58 rfl) (v := 16) (by decide) (n := 100) rfl ?_
          refine p_iload_n (z_dec zd_X9_goesCard 59 rfl) rfl 0 rfl (n := 101) rfl ?_
          refine p_imul (z_dec zd_X9_goesCard 60 rfl) (n := 102) rfl ?_
          refine p_iload_n (z_dec zd_X9_goesCard 61 rfl) rfl 1 rfl (n := 103) rfl ?_
          refine p_iadd (z_dec zd_X9_goesCard 62 rfl) (n := 104) rfl ?_
          exact p_iret (z_dec zd_X9_goesCard 63 rfl) rfl ⟨(by (conv => rhs; unfold gx_X9_goesCard_4); rw [if_pos h10]), rfl, (z_3 (by (conv => rhs; unfold gx_X9_goesCard_4); rw [if_pos h10]) rfl)⟩
        · have hx := z_nxt hn10 (by omega) h10
          refine p_aload_n (z_dec zd_X9_goesCard 9 rfl) rfl 2 rfl (n := 14) rfl ?_
          refine p_iload_n (z_dec zd_X9_goesCard 10 rfl) rfl 3 rfl (n := 15) rfl ?_
          refine p_iload_n (z_dec zd_X9_goesCard 11 rfl) rfl 1 rfl (n := 16) rfl ?_
          refine p_iconst (z_dec zd_X9_goesCard 12 rfl) (v := 0) (by decide) (n := 17) rfl ?_
          refine q_callV (As := [.int (nI sh), .int (nI t4), .int (nI 0)]) (rest := []) (z_dec zd_X9_goesCard 13 rfl) zk_X9_226 zv_X9_told (c_X9_told (d - 1) (by omega) b Iv L sh (by omega) t4 (by omega) 0 (by decide)) rfl ⟨_, _, rfl⟩ rfl rfl (Nat.le_of_ble_eq_true rfl) (by omega) (n := 20) rfl ?_
          show PW zm_X9_goesCard d 20 [(3, .int v3), (2, .int (nI t4)), (0, .ref 54), (1, .int (nI sh))] [.int (f_X9_told L sh t4 0)] SH (Iv, L, z_R b) 0 0 _
          refine p_istore (z_dec zd_X9_goesCard 14 rfl) (lv2 := [(4, .int (f_X9_told L sh t4 0)), (3, .int v3), (2, .int (nI t4)), (0, .ref 54), (1, .int (nI sh))]) (by decide) rfl (n := 22) rfl ?_
          refine p_aload_n (z_dec zd_X9_goesCard 15 rfl) rfl 3 rfl (n := 23) rfl ?_
          refine p_iload_n (z_dec zd_X9_goesCard 16 rfl) rfl 4 rfl (n := 24) rfl ?_
          refine p_iload_n (z_dec zd_X9_goesCard 17 rfl) rfl 2 rfl (n := 25) rfl ?_
          refine p_iconst (z_dec zd_X9_goesCard 18 rfl) (v := 1) (by decide) (n := 26) rfl ?_
          refine q_callV (As := [.int (nI sh), .int (nI t4), .int (nI 1)]) (rest := []) (z_dec zd_X9_goesCard 19 rfl) zk_X9_226 zv_X9_told (c_X9_told (d - 1) (by omega) b Iv L sh (by omega) t4 (by omega) 1 (by decide)) rfl ⟨_, _, rfl⟩ rfl rfl (Nat.le_of_ble_eq_true rfl) (by omega) (n := 29) rfl ?_
          show PW zm_X9_goesCard d 29 [(4, .int (f_X9_told L sh t4 0)), (3, .int v3), (2, .int (nI t4)), (0, .ref 54), (1, .int (nI sh))] [.int (f_X9_told L sh t4 1)] SH (Iv, L, z_R b) 0 0 _
          refine p_istore (z_dec zd_X9_goesCard 20 rfl) (lv2 := [(5, .int (f_X9_told L sh t4 1)), (4, .int (f_X9_told L sh t4 0)), (3, .int v3), (2, .int (nI t4)), (0, .ref 54), (1, .int (nI sh))]) (by decide) rfl (n := 31) rfl ?_
          refine p_aload_n (z_dec zd_X9_goesCard 21 rfl) rfl 4 rfl (n := 32) rfl ?_
          refine p_iload (z_dec zd_X9_goesCard 22 rfl) 1 rfl (n := 34) rfl ?_
          refine p_iload (z_dec zd_X9_goesCard 23 rfl) 0 rfl (n := 36) rfl ?_
          refine p_aload_n (z_dec zd_X9_goesCard 24 rfl) rfl 4 rfl (n := 37) rfl ?_
          refine p_iload_n (z_dec zd_X9_goesCard 25 rfl) rfl 5 rfl (n := 38) rfl ?_
          refine p_iload_n (z_dec zd_X9_goesCard 26 rfl) rfl 3 rfl (n := 39) rfl ?_
          refine p_iconst (z_dec zd_X9_goesCard 27 rfl) (v := 2) (by decide) (n := 40) rfl ?_
          refine q_callV (As := [.int (nI sh), .int (nI t4), .int (nI 2)]) (rest := [.int (f_X9_told L sh t4 1), .int (f_X9_told L sh t4 0), .ref 54]) (z_dec zd_X9_goesCard 28 rfl) zk_X9_226 zv_X9_told (c_X9_told (d - 1) (by omega) b Iv L sh (by omega) t4 (by omega) 2 (by decide)) rfl ⟨_, _, rfl⟩ rfl rfl (Nat.le_of_ble_eq_true rfl) (by omega) (n := 43) rfl ?_
          show PW zm_X9_goesCard d 43 [(5, .int (f_X9_told L sh t4 1)), (4, .int (f_X9_told L sh t4 0)), (3, .int v3), (2, .int (nI t4)), (0, .ref 54), (1, .int (nI sh))] [.int (f_X9_told L sh t4 2), .int (f_X9_told L sh t4 1), .int (f_X9_told L sh t4 0), .ref 54] SH (Iv, L, z_R b) 0 0 _
          refine q_callV (As := [.int (nI ((f_X9_told L sh t4 0).toNatClampNeg)), .int (nI ((f_X9_told L sh t4 1).toNatClampNeg)), .int (nI ((f_X9_told L sh t4 2).toNatClampNeg))]) (rest := []) (z_dec zd_X9_goesCard 29 rfl) zk_X9_209 zv_X9_oddsOf (c_X9_oddsOf (d - 1) (by omega) b Iv L ((f_X9_told L sh t4 0).toNatClampNeg) (Nat.lt_of_lt_of_le hx.2.1.2 hn10) ((f_X9_told L sh t4 1).toNatClampNeg) (Nat.lt_of_lt_of_le hx.2.2.1.2 hn10) ((f_X9_told L sh t4 2).toNatClampNeg) (Nat.lt_of_lt_of_le hx.2.2.2.2 hn10) hlo.1.2) rfl ⟨_, _, rfl⟩ (by simp only [← hx.2.1.1, ← hx.2.2.1.1, ← hx.2.2.2.1]; rfl) rfl (Nat.le_of_ble_eq_true rfl) (by omega) (n := 46) rfl ?_
          show PW zm_X9_goesCard d 46 [(5, .int (f_X9_told L sh t4 1)), (4, .int (f_X9_told L sh t4 0)), (3, .int v3), (2, .int (nI t4)), (0, .ref 54), (1, .int (nI sh))] [.int (f_X9_oddsOf Iv ((f_X9_told L sh t4 0).toNatClampNeg) ((f_X9_told L sh t4 1).toNatClampNeg) ((f_X9_told L sh t4 2).toNatClampNeg))] SH ((m_X9_oddsOf Iv ((f_X9_told L sh t4 0).toNatClampNeg) ((f_X9_told L sh t4 1).toNatClampNeg) ((f_X9_told L sh t4 2).toNatClampNeg)), L, z_R b) 0 0 _
          have hP46 : z_G np ((m_X9_oddsOf Iv ((f_X9_told L sh t4 0).toNatClampNeg) ((f_X9_told L sh t4 1).toNatClampNeg) ((f_X9_told L sh t4 2).toNatClampNeg))) := z_Goo hlo.1 _ _ _
          refine p_bipush (z_dec zd_X9_goesCard 30 rfl) (v := 6) (by decide) (n := 48) rfl ?_
          refine p_icmp_lt (z_dec zd_X9_goesCard 31 rfl) (t := 55) (by decide) (n := 51) rfl (fun h48 => ?_) (fun h48 => ?_)
          · refine p_iconst (z_dec zd_X9_goesCard 34 rfl) (v := 0) (by decide) (n := 56) rfl ?_
            refine p_istore (z_dec zd_X9_goesCard 35 rfl) (lv2 := [(6, .int 0), (5, .int (f_X9_told L sh t4 1)), (4, .int (f_X9_told L sh t4 0)), (3, .int v3), (2, .int (nI t4)), (0, .ref 54), (1, .int (nI sh))]) (by decide) rfl (n := 58) rfl ?_
            refine p_aload_n (z_dec zd_X9_goesCard 36 rfl) rfl 5 rfl (n := 59) rfl ?_
            refine p_iload (z_dec zd_X9_goesCard 37 rfl) 2 rfl (n := 61) rfl ?_
            refine p_iload (z_dec zd_X9_goesCard 38 rfl) 1 rfl (n := 63) rfl ?_
            refine p_aload_n (z_dec zd_X9_goesCard 39 rfl) rfl 5 rfl (n := 64) rfl ?_
            refine p_iload_n (z_dec zd_X9_goesCard 40 rfl) rfl 6 rfl (n := 65) rfl ?_
            refine p_iload_n (z_dec zd_X9_goesCard 41 rfl) rfl 4 rfl (n := 66) rfl ?_
            refine p_iconst (z_dec zd_X9_goesCard 42 rfl) (v := 2) (by decide) (n := 67) rfl ?_
            refine q_callV (As := [.int (nI sh), .int (nI t4), .int (nI 2)]) (rest := [.int (f_X9_told L sh t4 1), .int (f_X9_told L sh t4 0), .ref 54]) (z_dec zd_X9_goesCard 43 rfl) zk_X9_226 zv_X9_told (c_X9_told (d - 1) (by omega) b (m_X9_oddsOf Iv ((f_X9_told L sh t4 0).toNatClampNeg) ((f_X9_told L sh t4 1).toNatClampNeg) ((f_X9_told L sh t4 2).toNatClampNeg)) L sh (by omega) t4 (by omega) 2 (by decide)) rfl ⟨_, _, rfl⟩ rfl rfl (Nat.le_of_ble_eq_true rfl) (by omega) (n := 70) rfl ?_
            show PW zm_X9_goesCard d 70 [(6, .int 0), (5, .int (f_X9_told L sh t4 1)), (4, .int (f_X9_told L sh t4 0)), (3, .int v3), (2, .int (nI t4)), (0, .ref 54), (1, .int (nI sh))] [.int (f_X9_told L sh t4 2), .int (f_X9_told L sh t4 1), .int (f_X9_told L sh t4 0), .ref 54] SH ((m_X9_oddsOf Iv ((f_X9_told L sh t4 0).toNatClampNeg) ((f_X9_told L sh t4 1).toNatClampNeg) ((f_X9_told L sh t4 2).toNatClampNeg)), L, z_R b) 0 0 _
            refine p_iload (z_dec zd_X9_goesCard 44 rfl) 0 rfl (n := 72) rfl ?_
            refine q_callV (As := [.int (nI ((f_X9_told L sh t4 0).toNatClampNeg)), .int (nI ((f_X9_told L sh t4 1).toNatClampNeg)), .int (nI ((f_X9_told L sh t4 2).toNatClampNeg)), .int 0]) (rest := []) (z_dec zd_X9_goesCard 45 rfl) zk_X9_229 zv_X9_isHeld (c_X9_isHeld (d - 1) (by omega) b (m_X9_oddsOf Iv ((f_X9_told L sh t4 0).toNatClampNeg) ((f_X9_told L sh t4 1).toNatClampNeg) ((f_X9_told L sh t4 2).toNatClampNeg)) L ((f_X9_told L sh t4 0).toNatClampNeg) (Nat.lt_of_lt_of_le hx.2.1.2 hn10) ((f_X9_told L sh t4 1).toNatClampNeg) (Nat.lt_of_lt_of_le hx.2.2.1.2 hn10) ((f_X9_told L sh t4 2).toNatClampNeg) (Nat.lt_of_lt_of_le hx.2.2.2.2 hn10) 0) rfl ⟨_, _, rfl⟩ (by simp only [← hx.2.1.1, ← hx.2.2.1.1, ← hx.2.2.2.1]; rfl) rfl (Nat.le_of_ble_eq_true rfl) (by omega) (n := 75) rfl ?_
            show PW zm_X9_goesCard d 75 [(6, .int 0), (5, .int (f_X9_told L sh t4 1)), (4, .int (f_X9_told L sh t4 0)), (3, .int v3), (2, .int (nI t4)), (0, .ref 54), (1, .int (nI sh))] [] SH ((m_X9_isHeld (m_X9_oddsOf Iv ((f_X9_told L sh t4 0).toNatClampNeg) ((f_X9_told L sh t4 1).toNatClampNeg) ((f_X9_told L sh t4 2).toNatClampNeg)) ((f_X9_told L sh t4 0).toNatClampNeg) ((f_X9_told L sh t4 1).toNatClampNeg) ((f_X9_told L sh t4 2).toNatClampNeg) 0), L, z_R b) 0 0 _
            have hP75 : z_G np ((m_X9_isHeld (m_X9_oddsOf Iv ((f_X9_told L sh t4 0).toNatClampNeg) ((f_X9_told L sh t4 1).toNatClampNeg) ((f_X9_told L sh t4 2).toNatClampNeg)) ((f_X9_told L sh t4 0).toNatClampNeg) ((f_X9_told L sh t4 1).toNatClampNeg) ((f_X9_told L sh t4 2).toNatClampNeg) 0)) := z_Gih hP46 _ _ _ _
            refine p_iload_n (z_dec zd_X9_goesCard 46 rfl) rfl 3 rfl (n := 76) rfl ?_
            refine p_iconst (z_dec zd_X9_goesCard 47 rfl) (v := 1) (by decide) (n := 77) rfl ?_
            refine p_iload (z_dec zd_X9_goesCard 48 rfl) 0 rfl (n := 79) rfl ?_
            refine p_if_eq (z_dec zd_X9_goesCard 49 rfl) (t := 87) (by decide) (n := 82) rfl (fun h79 => ?_) (fun h79 => ?_)
            · refine p_iload (z_dec zd_X9_goesCard 52 rfl) 2 rfl (n := 89) rfl ?_
              refine p_ishl (z_dec zd_X9_goesCard 53 rfl) (n := 90) rfl ?_
              refine p_ior (z_dec zd_X9_goesCard 54 rfl) (n := 91) rfl ?_
              refine p_istore_n (z_dec zd_X9_goesCard 55 rfl) rfl (lv2 := [(3, .int (v3 ||| ((1 : Int32) <<< ((f_X9_told L sh t4 0) &&& 31)))), (6, .int 0), (5, .int (f_X9_told L sh t4 1)), (4, .int (f_X9_told L sh t4 0)), (2, .int (nI t4)), (0, .ref 54), (1, .int (nI sh))]) (by decide) rfl (n := 92) rfl ?_
              refine p_iinc (z_dec zd_X9_goesCard 56 rfl) 4 rfl (v := (nI (t4 + 1))) (nI_1 _) (lv2 := [(2, .int (nI (t4 + 1))), (3, .int (v3 ||| ((1 : Int32) <<< ((f_X9_told L sh t4 0) &&& 31)))), (6, .int 0), (5, .int (f_X9_told L sh t4 1)), (4, .int (f_X9_told L sh t4 0)), (0, .ref 54), (1, .int (nI sh))]) (by decide) rfl (n := 95) rfl ?_
              refine p_goto (z_dec zd_X9_goesCard 57 rfl) (t := 4) (by decide) ?_
              refine z_sub (lv' := [(3, .int (v3 ||| ((1 : Int32) <<< ((f_X9_told L sh t4 0) &&& 31)))), (2, .int (nI (t4 + 1))), (0, .ref 54), (1, .int (nI sh))]) [1, 0, 5, 6] rfl ?_
              rw [show gx_X9_goesCard_4 L np sh (r4 + 1) t4 v3 Iv = gx_X9_goesCard_4 L np sh r4 (t4 + 1) (v3 ||| ((1 : Int32) <<< ((f_X9_told L sh t4 0) &&& 31))) (m_X9_isHeld (m_X9_oddsOf Iv ((f_X9_told L sh t4 0).toNatClampNeg) ((f_X9_told L sh t4 1).toNatClampNeg) ((f_X9_told L sh t4 2).toNatClampNeg)) ((f_X9_told L sh t4 0).toNatClampNeg) ((f_X9_told L sh t4 1).toNatClampNeg) ((f_X9_told L sh t4 2).toNatClampNeg) 0) from by (conv => lhs; unfold gx_X9_goesCard_4); rw [if_neg h10, if_pos h48]]
              exact ih4 (t4 + 1) (v3 ||| ((1 : Int32) <<< ((f_X9_told L sh t4 0) &&& 31))) (m_X9_isHeld (m_X9_oddsOf Iv ((f_X9_told L sh t4 0).toNatClampNeg) ((f_X9_told L sh t4 1).toNatClampNeg) ((f_X9_told L sh t4 2).toNatClampNeg)) ((f_X9_told L sh t4 0).toNatClampNeg) ((f_X9_told L sh t4 1).toNatClampNeg) ((f_X9_told L sh t4 2).toNatClampNeg) 0) (by omega) ⟨hP75, hx.1⟩
            · exact absurd h79 (by decide)
          · refine p_iconst (z_dec zd_X9_goesCard 32 rfl) (v := 1) (by decide) (n := 52) rfl ?_
            refine p_goto (z_dec zd_X9_goesCard 33 rfl) (t := 56) (by decide) ?_
            refine p_istore (z_dec zd_X9_goesCard 35 rfl) (lv2 := [(6, .int 1), (5, .int (f_X9_told L sh t4 1)), (4, .int (f_X9_told L sh t4 0)), (3, .int v3), (2, .int (nI t4)), (0, .ref 54), (1, .int (nI sh))]) (by decide) rfl (n := 58) rfl ?_
            refine p_aload_n (z_dec zd_X9_goesCard 36 rfl) rfl 5 rfl (n := 59) rfl ?_
            refine p_iload (z_dec zd_X9_goesCard 37 rfl) 2 rfl (n := 61) rfl ?_
            refine p_iload (z_dec zd_X9_goesCard 38 rfl) 1 rfl (n := 63) rfl ?_
            refine p_aload_n (z_dec zd_X9_goesCard 39 rfl) rfl 5 rfl (n := 64) rfl ?_
            refine p_iload_n (z_dec zd_X9_goesCard 40 rfl) rfl 6 rfl (n := 65) rfl ?_
            refine p_iload_n (z_dec zd_X9_goesCard 41 rfl) rfl 4 rfl (n := 66) rfl ?_
            refine p_iconst (z_dec zd_X9_goesCard 42 rfl) (v := 2) (by decide) (n := 67) rfl ?_
            refine q_callV (As := [.int (nI sh), .int (nI t4), .int (nI 2)]) (rest := [.int (f_X9_told L sh t4 1), .int (f_X9_told L sh t4 0), .ref 54]) (z_dec zd_X9_goesCard 43 rfl) zk_X9_226 zv_X9_told (c_X9_told (d - 1) (by omega) b (m_X9_oddsOf Iv ((f_X9_told L sh t4 0).toNatClampNeg) ((f_X9_told L sh t4 1).toNatClampNeg) ((f_X9_told L sh t4 2).toNatClampNeg)) L sh (by omega) t4 (by omega) 2 (by decide)) rfl ⟨_, _, rfl⟩ rfl rfl (Nat.le_of_ble_eq_true rfl) (by omega) (n := 70) rfl ?_
            show PW zm_X9_goesCard d 70 [(6, .int 1), (5, .int (f_X9_told L sh t4 1)), (4, .int (f_X9_told L sh t4 0)), (3, .int v3), (2, .int (nI t4)), (0, .ref 54), (1, .int (nI sh))] [.int (f_X9_told L sh t4 2), .int (f_X9_told L sh t4 1), .int (f_X9_told L sh t4 0), .ref 54] SH ((m_X9_oddsOf Iv ((f_X9_told L sh t4 0).toNatClampNeg) ((f_X9_told L sh t4 1).toNatClampNeg) ((f_X9_told L sh t4 2).toNatClampNeg)), L, z_R b) 0 0 _
            refine p_iload (z_dec zd_X9_goesCard 44 rfl) 0 rfl (n := 72) rfl ?_
            refine q_callV (As := [.int (nI ((f_X9_told L sh t4 0).toNatClampNeg)), .int (nI ((f_X9_told L sh t4 1).toNatClampNeg)), .int (nI ((f_X9_told L sh t4 2).toNatClampNeg)), .int 1]) (rest := []) (z_dec zd_X9_goesCard 45 rfl) zk_X9_229 zv_X9_isHeld (c_X9_isHeld (d - 1) (by omega) b (m_X9_oddsOf Iv ((f_X9_told L sh t4 0).toNatClampNeg) ((f_X9_told L sh t4 1).toNatClampNeg) ((f_X9_told L sh t4 2).toNatClampNeg)) L ((f_X9_told L sh t4 0).toNatClampNeg) (Nat.lt_of_lt_of_le hx.2.1.2 hn10) ((f_X9_told L sh t4 1).toNatClampNeg) (Nat.lt_of_lt_of_le hx.2.2.1.2 hn10) ((f_X9_told L sh t4 2).toNatClampNeg) (Nat.lt_of_lt_of_le hx.2.2.2.2 hn10) 1) rfl ⟨_, _, rfl⟩ (by simp only [← hx.2.1.1, ← hx.2.2.1.1, ← hx.2.2.2.1]; rfl) rfl (Nat.le_of_ble_eq_true rfl) (by omega) (n := 75) rfl ?_
            show PW zm_X9_goesCard d 75 [(6, .int 1), (5, .int (f_X9_told L sh t4 1)), (4, .int (f_X9_told L sh t4 0)), (3, .int v3), (2, .int (nI t4)), (0, .ref 54), (1, .int (nI sh))] [] SH ((m_X9_isHeld (m_X9_oddsOf Iv ((f_X9_told L sh t4 0).toNatClampNeg) ((f_X9_told L sh t4 1).toNatClampNeg) ((f_X9_told L sh t4 2).toNatClampNeg)) ((f_X9_told L sh t4 0).toNatClampNeg) ((f_X9_told L sh t4 1).toNatClampNeg) ((f_X9_told L sh t4 2).toNatClampNeg) 1), L, z_R b) 0 0 _
            have hP75 : z_G np ((m_X9_isHeld (m_X9_oddsOf Iv ((f_X9_told L sh t4 0).toNatClampNeg) ((f_X9_told L sh t4 1).toNatClampNeg) ((f_X9_told L sh t4 2).toNatClampNeg)) ((f_X9_told L sh t4 0).toNatClampNeg) ((f_X9_told L sh t4 1).toNatClampNeg) ((f_X9_told L sh t4 2).toNatClampNeg) 1)) := z_Gih hP46 _ _ _ _
            refine p_iload_n (z_dec zd_X9_goesCard 46 rfl) rfl 3 rfl (n := 76) rfl ?_
            refine p_iconst (z_dec zd_X9_goesCard 47 rfl) (v := 1) (by decide) (n := 77) rfl ?_
            refine p_iload (z_dec zd_X9_goesCard 48 rfl) 0 rfl (n := 79) rfl ?_
            refine p_if_eq (z_dec zd_X9_goesCard 49 rfl) (t := 87) (by decide) (n := 82) rfl (fun h79 => ?_) (fun h79 => ?_)
            · exact absurd h79 (by decide)
            · refine p_iload (z_dec zd_X9_goesCard 50 rfl) 1 rfl (n := 84) rfl ?_
              refine p_goto (z_dec zd_X9_goesCard 51 rfl) (t := 89) (by decide) ?_
              refine p_ishl (z_dec zd_X9_goesCard 53 rfl) (n := 90) rfl ?_
              refine p_ior (z_dec zd_X9_goesCard 54 rfl) (n := 91) rfl ?_
              refine p_istore_n (z_dec zd_X9_goesCard 55 rfl) rfl (lv2 := [(3, .int (v3 ||| ((1 : Int32) <<< ((f_X9_told L sh t4 1) &&& 31)))), (6, .int 1), (5, .int (f_X9_told L sh t4 1)), (4, .int (f_X9_told L sh t4 0)), (2, .int (nI t4)), (0, .ref 54), (1, .int (nI sh))]) (by decide) rfl (n := 92) rfl ?_
              refine p_iinc (z_dec zd_X9_goesCard 56 rfl) 4 rfl (v := (nI (t4 + 1))) (nI_1 _) (lv2 := [(2, .int (nI (t4 + 1))), (3, .int (v3 ||| ((1 : Int32) <<< ((f_X9_told L sh t4 1) &&& 31)))), (6, .int 1), (5, .int (f_X9_told L sh t4 1)), (4, .int (f_X9_told L sh t4 0)), (0, .ref 54), (1, .int (nI sh))]) (by decide) rfl (n := 95) rfl ?_
              refine p_goto (z_dec zd_X9_goesCard 57 rfl) (t := 4) (by decide) ?_
              refine z_sub (lv' := [(3, .int (v3 ||| ((1 : Int32) <<< ((f_X9_told L sh t4 1) &&& 31)))), (2, .int (nI (t4 + 1))), (0, .ref 54), (1, .int (nI sh))]) [1, 0, 5, 6] rfl ?_
              rw [show gx_X9_goesCard_4 L np sh (r4 + 1) t4 v3 Iv = gx_X9_goesCard_4 L np sh r4 (t4 + 1) (v3 ||| ((1 : Int32) <<< ((f_X9_told L sh t4 1) &&& 31))) (m_X9_isHeld (m_X9_oddsOf Iv ((f_X9_told L sh t4 0).toNatClampNeg) ((f_X9_told L sh t4 1).toNatClampNeg) ((f_X9_told L sh t4 2).toNatClampNeg)) ((f_X9_told L sh t4 0).toNatClampNeg) ((f_X9_told L sh t4 1).toNatClampNeg) ((f_X9_told L sh t4 2).toNatClampNeg) 1) from by (conv => lhs; unfold gx_X9_goesCard_4); rw [if_neg h10, if_neg h48]]
              exact ih4 (t4 + 1) (v3 ||| ((1 : Int32) <<< ((f_X9_told L sh t4 1) &&& 31))) (m_X9_isHeld (m_X9_oddsOf Iv ((f_X9_told L sh t4 0).toNatClampNeg) ((f_X9_told L sh t4 1).toNatClampNeg) ((f_X9_told L sh t4 2).toNatClampNeg)) ((f_X9_told L sh t4 0).toNatClampNeg) ((f_X9_told L sh t4 1).toNatClampNeg) ((f_X9_told L sh t4 2).toNatClampNeg) 1) (by omega) ⟨hP75, hx.1⟩
    exact (by have q := (hL4 9 0 0 I (by omega) ⟨hG, Nat.zero_le _⟩); (rw [show f_X9_goesCard I L np sh = _ from by unfold f_X9_goesCard; rfl]); (rw [show m_X9_goesCard I L np sh = _ from by unfold m_X9_goesCard; rfl]); exact q)
  exact hentry
