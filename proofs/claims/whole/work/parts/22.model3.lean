theorem z_begG (I : Nat → Nat → Int32) (a j : Nat) (h1 : a ≠ 62) (h2 : a ≠ 63) (h3 : a ≠ 64) : ∀ i, g_X9_begins_2 I i a j = I a j
  | 0 => rfl
  | i + 1 => by
    have ih := z_begG I a j h1 h2 h3 i
    show gb_X9_begins_2 I i (g_X9_begins_2 I i) a j = _
    unfold gb_X9_begins_2
    simp [z_up, h1, h2, h3, ih]
theorem z_begO (I : Nat → Nat → Int32) (np a j : Nat) (h1 : a ≠ 62) (h2 : a ≠ 63) (h3 : a ≠ 64) (h4 : a ≠ 54 ∨ j ≠ 20) : m_X9_begins I np a j = I a j := by
  unfold m_X9_begins
  rcases h4 with h4 | h4
  · rw [z_up_k _ _ h4]; exact z_begG I a j h1 h2 h3 np
  · by_cases h5 : a = 54
    · subst h5; rw [z_up_j _ _ h4]; exact z_begG I 54 j h1 h2 h3 np
    · rw [z_up_k _ _ h5]; exact z_begG I a j h1 h2 h3 np
theorem z_ref {I : Nat → Nat → Int32} {sh i : Int32} (hmn : ∀ j, j < 6 → I 76 j = nI (I 76 j).toNatClampNeg ∧ (I 76 j).toNatClampNeg ≤ 60) (h : f_X9_refusal I sh i = 0) : (sh = nI sh.toNatClampNeg ∧ sh.toNatClampNeg < 6) ∧ (i = nI i.toNatClampNeg ∧ i.toNatClampNeg < 60) := by
  unfold f_X9_refusal at h
  by_cases h1 : f_X9_isShelf sh = 0
  · rw [if_pos h1] at h; exact absurd h (by decide)
  · rw [if_neg h1] at h
    have hs := z_shf h1
    obtain ⟨e1, e2⟩ := hmn _ hs.2
    refine ⟨hs, ?_⟩
    by_cases h2 : 0 ≤ I 75 sh.toNatClampNeg
    · rw [if_pos h2] at h
      by_cases h3 : 50 ≤ I 75 sh.toNatClampNeg
      · rw [if_pos h3] at h
        by_cases h4 : i < 0
        · rw [if_pos h4] at h; exact absurd h (by decide)
        · rw [if_neg h4] at h
          by_cases h5 : I 76 sh.toNatClampNeg ≤ i
          · rw [if_pos h5] at h; exact absurd h (by decide)
          · rw [e1] at h5
            obtain ⟨q1, q2⟩ := z_inN h4 h5 (by omega)
            exact ⟨q1, by omega⟩
      · rw [if_neg h3] at h; exact absurd h (by decide)
    · rw [if_neg h2] at h; exact absurd h (by decide)
def gb_X9_becomes_26 (I : Nat → Nat → Int32) (i26 : Nat) (s : (Nat → Nat → Int32)) : (Nat → Nat → Int32) := (z_up (z_up (z_up s 56 ((i26 + 1) - 1) (s 56 (i26 + 1))) 57 ((i26 + 1) - 1) (s 57 (i26 + 1))) 58 ((i26 + 1) - 1) (s 58 (i26 + 1)))
def g_X9_becomes_26 (I : Nat → Nat → Int32) : Nat → (Nat → Nat → Int32)
  | 0 => I
  | i26 + 1 => gb_X9_becomes_26 I i26 (g_X9_becomes_26 I i26)
theorem gi_X9_becomes_26_54_5 (I : Nat → Nat → Int32) : ∀ i26, (g_X9_becomes_26 I i26) 54 5 = I 54 5
  | 0 => rfl
  | i26 + 1 => by
    have ih := gi_X9_becomes_26_54_5 I i26
    show (gb_X9_becomes_26 I i26 (g_X9_becomes_26 I i26)) 54 5 = _
    unfold gb_X9_becomes_26
    (repeat' split) <;> simp [z_up, ih]
def f_X9_becomes (I : Nat → Nat → Int32) (dn : Nat) (wh : Nat) (v : Int32) : Int32 := if (I 55 wh) = v then (I 55 wh) else if (nI dn) = 40 then (I 55 wh) else (I 55 wh)
def m_X9_becomes (I : Nat → Nat → Int32) (dn : Nat) (wh : Nat) (v : Int32) : Nat → Nat → Int32 := if (I 55 wh) = v then I else if (nI dn) = 40 then (z_up (z_up (z_up (z_up (z_up (z_up (z_up (g_X9_becomes_26 I 39) 54 5 (nI 39)) 56 39 (nI wh)) 57 39 (I 55 wh)) 58 39 v) 54 5 ((nI 39) + 1)) 54 4 ((nI 39) + 1)) 55 wh v) else (z_up (z_up (z_up (z_up (z_up (z_up I 56 dn (nI wh)) 57 dn (I 55 wh)) 58 dn v) 54 5 ((nI dn) + 1)) 54 4 ((nI dn) + 1)) 55 wh v)
set_option maxHeartbeats 4000000 in
set_option maxRecDepth 100000 in
theorem c_X9_becomes (d : Nat) (hd : 0 ≤ d) (b : Bool) (I : Nat → Nat → Int32) (L : Nat → Nat → Int64) (dn : Nat) (hdn : I 54 5 = nI dn) (hd40 : dn ≤ 40) (wh : Nat) (hwh : wh < 42) (v : Int32) : z_CT zm_X9_becomes d [.ref 54, .int (nI wh), .int v] SH (I, L, z_R b) 0 0 (z_ret (some (.int (f_X9_becomes I dn wh v))) ((m_X9_becomes I dn wh v), L, z_R b)) := by
  refine z_enter (by decide +kernel) (Nat.le_of_ble_eq_true rfl) ?_
  have hentry : PW zm_X9_becomes d 0 [(0, .ref 54), (1, .int (nI wh)), (2, .int v)] [] SH (I, L, z_R b) 0 0 (z_ret (some (.int (f_X9_becomes I dn wh v))) ((m_X9_becomes I dn wh v), L, z_R b)) := by
    refine p_aload_n (z_dec zd_X9_becomes 0 rfl) rfl 0 rfl (n := 1) rfl ?_
    refine q_getR (z_dec zd_X9_becomes 1 rfl) zf_X9_9 (i := 55) rfl rfl (n := 4) rfl ?_
    refine p_iload_n (z_dec zd_X9_becomes 2 rfl) rfl 1 rfl (n := 5) rfl ?_
    refine q_iald (z_dec zd_X9_becomes 3 rfl) rfl (by decide) (wh) rfl (by omega) (v := (I 55 wh)) rfl (n := 6) rfl ?_
    refine p_istore_n (z_dec zd_X9_becomes 4 rfl) rfl (lv2 := [(3, .int (I 55 wh)), (0, .ref 54), (1, .int (nI wh)), (2, .int v)]) (by decide) rfl (n := 7) rfl ?_
    refine p_iload_n (z_dec zd_X9_becomes 5 rfl) rfl 0 rfl (n := 8) rfl ?_
    refine p_iload_n (z_dec zd_X9_becomes 6 rfl) rfl 3 rfl (n := 9) rfl ?_
    refine p_icmp_ne (z_dec zd_X9_becomes 7 rfl) (t := 14) (by decide) (n := 12) rfl (fun h9 => ?_) (fun h9 => ?_)
    · refine p_aload_n (z_dec zd_X9_becomes 10 rfl) rfl 1 rfl (n := 15) rfl ?_
      refine q_getI (z_dec zd_X9_becomes 11 rfl) zf_X9_87 (by decide) rfl (v := (nI dn)) hdn (n := 18) rfl ?_
      refine p_bipush (z_dec zd_X9_becomes 12 rfl) (v := 40) (by decide) (n := 20) rfl ?_
      refine p_icmp_ne (z_dec zd_X9_becomes 13 rfl) (t := 97) (by decide) (n := 23) rfl (fun h20 => ?_) (fun h20 => ?_)
      · have hdl : dn < 40 := z_neN (N := 40) hd40 (by omega) h20
        refine p_aload_n (z_dec zd_X9_becomes 57 rfl) rfl 1 rfl (n := 98) rfl ?_
        refine q_getR (z_dec zd_X9_becomes 58 rfl) zf_X9_13 (i := 56) rfl rfl (n := 101) rfl ?_
        refine p_aload_n (z_dec zd_X9_becomes 59 rfl) rfl 1 rfl (n := 102) rfl ?_
        refine q_getI (z_dec zd_X9_becomes 60 rfl) zf_X9_87 (by decide) rfl (v := (nI dn)) hdn (n := 105) rfl ?_
        refine p_iload_n (z_dec zd_X9_becomes 61 rfl) rfl 2 rfl (n := 106) rfl ?_
        refine q_iast (z_dec zd_X9_becomes 62 rfl) rfl (by decide) (dn) rfl (by omega) (n := 107) rfl ?_
        refine p_aload_n (z_dec zd_X9_becomes 63 rfl) rfl 1 rfl (n := 108) rfl ?_
        refine q_getR (z_dec zd_X9_becomes 64 rfl) zf_X9_16 (i := 57) rfl rfl (n := 111) rfl ?_
        refine p_aload_n (z_dec zd_X9_becomes 65 rfl) rfl 1 rfl (n := 112) rfl ?_
        refine q_getI (z_dec zd_X9_becomes 66 rfl) zf_X9_87 (by decide) rfl (v := (nI dn)) hdn (n := 115) rfl ?_
        refine p_iload_n (z_dec zd_X9_becomes 67 rfl) rfl 0 rfl (n := 116) rfl ?_
        refine q_iast (z_dec zd_X9_becomes 68 rfl) rfl (by decide) (dn) rfl (by omega) (n := 117) rfl ?_
        refine p_aload_n (z_dec zd_X9_becomes 69 rfl) rfl 1 rfl (n := 118) rfl ?_
        refine q_getR (z_dec zd_X9_becomes 70 rfl) zf_X9_19 (i := 58) rfl rfl (n := 121) rfl ?_
        refine p_aload_n (z_dec zd_X9_becomes 71 rfl) rfl 1 rfl (n := 122) rfl ?_
        refine q_getI (z_dec zd_X9_becomes 72 rfl) zf_X9_87 (by decide) rfl (v := (nI dn)) hdn (n := 125) rfl ?_
        refine p_iload_n (z_dec zd_X9_becomes 73 rfl) rfl 3 rfl (n := 126) rfl ?_
        refine q_iast (z_dec zd_X9_becomes 74 rfl) rfl (by decide) (dn) rfl (by omega) (n := 127) rfl ?_
        refine p_aload_n (z_dec zd_X9_becomes 75 rfl) rfl 1 rfl (n := 128) rfl ?_
        refine p_dup (z_dec zd_X9_becomes 76 rfl) rfl (n := 129) rfl ?_
        refine q_getI (z_dec zd_X9_becomes 77 rfl) zf_X9_87 (by decide) rfl (v := (nI dn)) hdn (n := 132) rfl ?_
        refine p_iconst (z_dec zd_X9_becomes 78 rfl) (v := 1) (by decide) (n := 133) rfl ?_
        refine p_iadd (z_dec zd_X9_becomes 79 rfl) (n := 134) rfl ?_
        refine q_putI (z_dec zd_X9_becomes 80 rfl) zp_X9_87 (fun q => by cases q) rfl (n := 137) rfl ?_
        refine p_aload_n (z_dec zd_X9_becomes 81 rfl) rfl 1 rfl (n := 138) rfl ?_
        refine p_aload_n (z_dec zd_X9_becomes 82 rfl) rfl 1 rfl (n := 139) rfl ?_
        refine q_getI (z_dec zd_X9_becomes 83 rfl) zf_X9_87 (by decide) rfl (v := ((nI dn) + 1)) rfl (n := 142) rfl ?_
        refine q_putI (z_dec zd_X9_becomes 84 rfl) zp_X9_90 (fun q => by cases q) rfl (n := 145) rfl ?_
        refine p_aload_n (z_dec zd_X9_becomes 85 rfl) rfl 1 rfl (n := 146) rfl ?_
        refine q_getR (z_dec zd_X9_becomes 86 rfl) zf_X9_9 (i := 55) rfl rfl (n := 149) rfl ?_
        refine p_iload_n (z_dec zd_X9_becomes 87 rfl) rfl 2 rfl (n := 150) rfl ?_
        refine p_iload_n (z_dec zd_X9_becomes 88 rfl) rfl 3 rfl (n := 151) rfl ?_
        refine q_iast (z_dec zd_X9_becomes 89 rfl) rfl (by decide) (wh) rfl (by omega) (n := 152) rfl ?_
        refine p_iload_n (z_dec zd_X9_becomes 90 rfl) rfl 0 rfl (n := 153) rfl ?_
        exact p_iret (z_dec zd_X9_becomes 91 rfl) rfl ⟨(by unfold f_X9_becomes; rw [if_neg h9, if_neg h20]), rfl, (z_3 (by unfold m_X9_becomes; rw [if_neg h9, if_neg h20]) rfl)⟩
      · refine p_iconst (z_dec zd_X9_becomes 14 rfl) (v := 1) (by decide) (n := 24) rfl ?_
        refine p_istore (z_dec zd_X9_becomes 15 rfl) (lv2 := [(4, .int 1), (3, .int (I 55 wh)), (0, .ref 54), (1, .int (nI wh)), (2, .int v)]) (by decide) rfl (n := 26) rfl ?_
        have hL26 : ∀ i26, i26 ≤ 39 → PW zm_X9_becomes d 26 [(4, .int (nI (i26 + 1))), (3, .int (I 55 wh)), (0, .ref 54), (1, .int (nI wh)), (2, .int v)] [] SH ((g_X9_becomes_26 I i26), L, z_R b) 0 0 (z_ret (some (.int (f_X9_becomes I dn wh v))) ((m_X9_becomes I dn wh v), L, z_R b)) := by
          refine z_down 39 (fun i26 hi26 ih26 => ?_)
          refine p_iload (z_dec zd_X9_becomes 16 rfl) 0 rfl (n := 28) rfl ?_
          refine p_bipush (z_dec zd_X9_becomes 17 rfl) (v := 40) (by decide) (n := 30) rfl ?_
          refine p_icmp_ge (z_dec zd_X9_becomes 18 rfl) (t := 87) (by decide) (n := 33) rfl (fun h30 => ?_) (fun h30 => ?_)
          · have hx26 : i26 = 39 := by have := z_ge (a := 40) h30; omega
            rw [hx26]
            refine p_aload_n (z_dec zd_X9_becomes 51 rfl) rfl 2 rfl (n := 88) rfl ?_
            refine p_dup (z_dec zd_X9_becomes 52 rfl) rfl (n := 89) rfl ?_
            refine q_getI (z_dec zd_X9_becomes 53 rfl) zf_X9_87 (by decide) rfl (v := (nI dn)) ((gi_X9_becomes_26_54_5 I 39).trans hdn) (n := 92) rfl ?_
            refine p_iconst (z_dec zd_X9_becomes 54 rfl) (v := 1) (by decide) (n := 93) rfl ?_
            refine p_isub (z_dec zd_X9_becomes 55 rfl) (n := 94) rfl ?_
            refine z_lv rfl (show _ = [.int (nI 39), .ref 54] from (by rw [h20]; rfl)) rfl ?_
            refine q_putI (z_dec zd_X9_becomes 56 rfl) zp_X9_87 (fun q => by cases q) rfl (n := 97) rfl ?_
            refine p_aload_n (z_dec zd_X9_becomes 57 rfl) rfl 2 rfl (n := 98) rfl ?_
            refine q_getR (z_dec zd_X9_becomes 58 rfl) zf_X9_13 (i := 56) rfl rfl (n := 101) rfl ?_
            refine p_aload_n (z_dec zd_X9_becomes 59 rfl) rfl 2 rfl (n := 102) rfl ?_
            refine q_getI (z_dec zd_X9_becomes 60 rfl) zf_X9_87 (by decide) rfl (v := (nI 39)) rfl (n := 105) rfl ?_
            refine p_iload_n (z_dec zd_X9_becomes 61 rfl) rfl 3 rfl (n := 106) rfl ?_
            refine q_iast (z_dec zd_X9_becomes 62 rfl) rfl (by decide) (39) rfl (by omega) (n := 107) rfl ?_
            refine p_aload_n (z_dec zd_X9_becomes 63 rfl) rfl 2 rfl (n := 108) rfl ?_
            refine q_getR (z_dec zd_X9_becomes 64 rfl) zf_X9_16 (i := 57) rfl rfl (n := 111) rfl ?_
            refine p_aload_n (z_dec zd_X9_becomes 65 rfl) rfl 2 rfl (n := 112) rfl ?_
            refine q_getI (z_dec zd_X9_becomes 66 rfl) zf_X9_87 (by decide) rfl (v := (nI 39)) rfl (n := 115) rfl ?_
            refine p_iload_n (z_dec zd_X9_becomes 67 rfl) rfl 1 rfl (n := 116) rfl ?_
            refine q_iast (z_dec zd_X9_becomes 68 rfl) rfl (by decide) (39) rfl (by omega) (n := 117) rfl ?_
            refine p_aload_n (z_dec zd_X9_becomes 69 rfl) rfl 2 rfl (n := 118) rfl ?_
            refine q_getR (z_dec zd_X9_becomes 70 rfl) zf_X9_19 (i := 58) rfl rfl (n := 121) rfl ?_
            refine p_aload_n (z_dec zd_X9_becomes 71 rfl) rfl 2 rfl (n := 122) rfl ?_
            refine q_getI (z_dec zd_X9_becomes 72 rfl) zf_X9_87 (by decide) rfl (v := (nI 39)) rfl (n := 125) rfl ?_
            refine p_iload_n (z_dec zd_X9_becomes 73 rfl) rfl 4 rfl (n := 126) rfl ?_
            refine q_iast (z_dec zd_X9_becomes 74 rfl) rfl (by decide) (39) rfl (by omega) (n := 127) rfl ?_
            refine p_aload_n (z_dec zd_X9_becomes 75 rfl) rfl 2 rfl (n := 128) rfl ?_
            refine p_dup (z_dec zd_X9_becomes 76 rfl) rfl (n := 129) rfl ?_
            refine q_getI (z_dec zd_X9_becomes 77 rfl) zf_X9_87 (by decide) rfl (v := (nI 39)) rfl (n := 132) rfl ?_
            refine p_iconst (z_dec zd_X9_becomes 78 rfl) (v := 1) (by decide) (n := 133) rfl ?_
            refine p_iadd (z_dec zd_X9_becomes 79 rfl) (n := 134) rfl ?_
            refine q_putI (z_dec zd_X9_becomes 80 rfl) zp_X9_87 (fun q => by cases q) rfl (n := 137) rfl ?_
            refine p_aload_n (z_dec zd_X9_becomes 81 rfl) rfl 2 rfl (n := 138) rfl ?_
            refine p_aload_n (z_dec zd_X9_becomes 82 rfl) rfl 2 rfl (n := 139) rfl ?_
            refine q_getI (z_dec zd_X9_becomes 83 rfl) zf_X9_87 (by decide) rfl (v := ((nI 39) + 1)) rfl (n := 142) rfl ?_
            refine q_putI (z_dec zd_X9_becomes 84 rfl) zp_X9_90 (fun q => by cases q) rfl (n := 145) rfl ?_
            refine p_aload_n (z_dec zd_X9_becomes 85 rfl) rfl 2 rfl (n := 146) rfl ?_
            refine q_getR (z_dec zd_X9_becomes 86 rfl) zf_X9_9 (i := 55) rfl rfl (n := 149) rfl ?_
            refine p_iload_n (z_dec zd_X9_becomes 87 rfl) rfl 3 rfl (n := 150) rfl ?_
            refine p_iload_n (z_dec zd_X9_becomes 88 rfl) rfl 4 rfl (n := 151) rfl ?_
            refine q_iast (z_dec zd_X9_becomes 89 rfl) rfl (by decide) (wh) rfl (by omega) (n := 152) rfl ?_
            refine p_iload_n (z_dec zd_X9_becomes 90 rfl) rfl 1 rfl (n := 153) rfl ?_
            exact p_iret (z_dec zd_X9_becomes 91 rfl) rfl ⟨(by unfold f_X9_becomes; rw [if_neg h9, if_pos h20]), rfl, (z_3 (by unfold m_X9_becomes; rw [if_neg h9, if_pos h20]) rfl)⟩
          · have hx26 : i26 < 39 := by have := z_nge (a := 40) h30; omega
            refine p_aload_n (z_dec zd_X9_becomes 19 rfl) rfl 2 rfl (n := 34) rfl ?_
            refine q_getR (z_dec zd_X9_becomes 20 rfl) zf_X9_13 (i := 56) rfl rfl (n := 37) rfl ?_
            refine p_iload (z_dec zd_X9_becomes 21 rfl) 0 rfl (n := 39) rfl ?_
            refine p_iconst (z_dec zd_X9_becomes 22 rfl) (v := 1) (by decide) (n := 40) rfl ?_
            refine p_isub (z_dec zd_X9_becomes 23 rfl) (n := 41) rfl ?_
            refine p_aload_n (z_dec zd_X9_becomes 24 rfl) rfl 2 rfl (n := 42) rfl ?_
            refine q_getR (z_dec zd_X9_becomes 25 rfl) zf_X9_13 (i := 56) rfl rfl (n := 45) rfl ?_
            refine p_iload (z_dec zd_X9_becomes 26 rfl) 0 rfl (n := 47) rfl ?_
            refine q_iald (z_dec zd_X9_becomes 27 rfl) rfl (by decide) ((i26 + 1)) rfl (by omega) (v := ((g_X9_becomes_26 I i26) 56 (i26 + 1))) rfl (n := 48) rfl ?_
            refine q_iast (z_dec zd_X9_becomes 28 rfl) rfl (by decide) ((i26 + 1) - 1) (z_subE rfl rfl (by omega)) (by omega) (n := 49) rfl ?_
            refine p_aload_n (z_dec zd_X9_becomes 29 rfl) rfl 2 rfl (n := 50) rfl ?_
            refine q_getR (z_dec zd_X9_becomes 30 rfl) zf_X9_16 (i := 57) rfl rfl (n := 53) rfl ?_
            refine p_iload (z_dec zd_X9_becomes 31 rfl) 0 rfl (n := 55) rfl ?_
            refine p_iconst (z_dec zd_X9_becomes 32 rfl) (v := 1) (by decide) (n := 56) rfl ?_
            refine p_isub (z_dec zd_X9_becomes 33 rfl) (n := 57) rfl ?_
            refine p_aload_n (z_dec zd_X9_becomes 34 rfl) rfl 2 rfl (n := 58) rfl ?_
            refine q_getR (z_dec zd_X9_becomes 35 rfl) zf_X9_16 (i := 57) rfl rfl (n := 61) rfl ?_
            refine p_iload (z_dec zd_X9_becomes 36 rfl) 0 rfl (n := 63) rfl ?_
            refine q_iald (z_dec zd_X9_becomes 37 rfl) rfl (by decide) ((i26 + 1)) rfl (by omega) (v := ((g_X9_becomes_26 I i26) 57 (i26 + 1))) rfl (n := 64) rfl ?_
            refine q_iast (z_dec zd_X9_becomes 38 rfl) rfl (by decide) ((i26 + 1) - 1) (z_subE rfl rfl (by omega)) (by omega) (n := 65) rfl ?_
            refine p_aload_n (z_dec zd_X9_becomes 39 rfl) rfl 2 rfl (n := 66) rfl ?_
            refine q_getR (z_dec zd_X9_becomes 40 rfl) zf_X9_19 (i := 58) rfl rfl (n := 69) rfl ?_
            refine p_iload (z_dec zd_X9_becomes 41 rfl) 0 rfl (n := 71) rfl ?_
            refine p_iconst (z_dec zd_X9_becomes 42 rfl) (v := 1) (by decide) (n := 72) rfl ?_
            refine p_isub (z_dec zd_X9_becomes 43 rfl) (n := 73) rfl ?_
            refine p_aload_n (z_dec zd_X9_becomes 44 rfl) rfl 2 rfl (n := 74) rfl ?_
            refine q_getR (z_dec zd_X9_becomes 45 rfl) zf_X9_19 (i := 58) rfl rfl (n := 77) rfl ?_
            refine p_iload (z_dec zd_X9_becomes 46 rfl) 0 rfl (n := 79) rfl ?_
            refine q_iald (z_dec zd_X9_becomes 47 rfl) rfl (by decide) ((i26 + 1)) rfl (by omega) (v := ((g_X9_becomes_26 I i26) 58 (i26 + 1))) rfl (n := 80) rfl ?_
            refine q_iast (z_dec zd_X9_becomes 48 rfl) rfl (by decide) ((i26 + 1) - 1) (z_subE rfl rfl (by omega)) (by omega) (n := 81) rfl ?_
            refine p_iinc (z_dec zd_X9_becomes 49 rfl) 0 rfl (v := (nI ((i26 + 1) + 1))) (nI_1 _) (lv2 := [(4, .int (nI ((i26 + 1) + 1))), (3, .int (I 55 wh)), (0, .ref 54), (1, .int (nI wh)), (2, .int v)]) (by decide) rfl (n := 84) rfl ?_
            refine p_goto (z_dec zd_X9_becomes 50 rfl) (t := 26) (by decide) ?_
            have eb : (g_X9_becomes_26 I) (i26 + 1) = (z_up (z_up (z_up (g_X9_becomes_26 I i26) 56 ((i26 + 1) - 1) ((g_X9_becomes_26 I i26) 56 (i26 + 1))) 57 ((i26 + 1) - 1) ((g_X9_becomes_26 I i26) 57 (i26 + 1))) 58 ((i26 + 1) - 1) ((g_X9_becomes_26 I i26) 58 (i26 + 1))) := by show gb_X9_becomes_26 I i26 ((g_X9_becomes_26 I) i26) = _; unfold gb_X9_becomes_26; rfl
            refine z_lv (lv' := [(4, .int (nI ((i26 + 1) + 1))), (3, .int (I 55 wh)), (0, .ref 54), (1, .int (nI wh)), (2, .int v)]) rfl rfl (by rw [eb]) (ih26 (by omega))
        refine z_lv (lv' := [(4, .int (nI (0 + 1))), (3, .int (I 55 wh)), (0, .ref 54), (1, .int (nI wh)), (2, .int v)]) rfl rfl rfl (hL26 0 (Nat.zero_le _))
    · refine p_iload_n (z_dec zd_X9_becomes 8 rfl) rfl 0 rfl (n := 13) rfl ?_
      exact p_iret (z_dec zd_X9_becomes 9 rfl) rfl ⟨(by unfold f_X9_becomes; rw [if_pos h9]), rfl, (z_3 (by unfold m_X9_becomes; rw [if_pos h9]) rfl)⟩
  exact hentry
def f_X9_mend (I : Nat → Nat → Int32) (np : Nat) (dn : Nat) (n : Int32) (what : Int32) (v : Int32) : Int32 := if (f_X9_placeOf np n what) < 0 then (-2000000000) else if (f_X9_mayBecome what v) = 0 then (-2000000000) else (f_X9_becomes I dn ((f_X9_placeOf np n what).toNatClampNeg) v)
def m_X9_mend (I : Nat → Nat → Int32) (np : Nat) (dn : Nat) (n : Int32) (what : Int32) (v : Int32) : Nat → Nat → Int32 := if (f_X9_placeOf np n what) < 0 then I else if (f_X9_mayBecome what v) = 0 then I else (m_X9_becomes I dn ((f_X9_placeOf np n what).toNatClampNeg) v)
set_option maxHeartbeats 4000000 in
set_option maxRecDepth 100000 in
theorem c_X9_mend (d : Nat) (hd : 3 ≤ d) (b : Bool) (I : Nat → Nat → Int32) (L : Nat → Nat → Int64) (np : Nat) (hnp : I 54 6 = nI np) (hn10 : np ≤ 10) (dn : Nat) (hdn : I 54 5 = nI dn) (hd40 : dn ≤ 40) (n : Int32) (what : Int32) (v : Int32) : z_CT zm_X9_mend d [.ref 54, .int n, .int what, .int v] SH (I, L, z_R b) 0 0 (z_ret (some (.int (f_X9_mend I np dn n what v))) ((m_X9_mend I np dn n what v), L, z_R b)) := by
  refine z_enter (by decide +kernel) (Nat.le_of_ble_eq_true rfl) ?_
  have hentry : PW zm_X9_mend d 0 [(0, .ref 54), (1, .int n), (2, .int what), (3, .int v)] [] SH (I, L, z_R b) 0 0 (z_ret (some (.int (f_X9_mend I np dn n what v))) ((m_X9_mend I np dn n what v), L, z_R b)) := by
    refine p_aload_n (z_dec zd_X9_mend 0 rfl) rfl 0 rfl (n := 1) rfl ?_
    refine p_iload_n (z_dec zd_X9_mend 1 rfl) rfl 1 rfl (n := 2) rfl ?_
    refine p_iload_n (z_dec zd_X9_mend 2 rfl) rfl 2 rfl (n := 3) rfl ?_
    refine q_callV (As := [.int n, .int what]) (rest := []) (z_dec zd_X9_mend 3 rfl) zk_X9_129 zv_X9_placeOf (c_X9_placeOf (d - 1) (by omega) b I L np hnp hn10 n what) rfl ⟨_, _, rfl⟩ rfl rfl (Nat.le_of_ble_eq_true rfl) (by omega) (n := 6) rfl ?_
    show PW zm_X9_mend d 6 [(0, .ref 54), (1, .int n), (2, .int what), (3, .int v)] [.int (f_X9_placeOf np n what)] SH (I, L, z_R b) 0 0 _
    refine p_istore (z_dec zd_X9_mend 4 rfl) (lv2 := [(4, .int (f_X9_placeOf np n what)), (0, .ref 54), (1, .int n), (2, .int what), (3, .int v)]) (by decide) rfl (n := 8) rfl ?_
    refine p_iload (z_dec zd_X9_mend 5 rfl) 0 rfl (n := 10) rfl ?_
    refine p_if_lt (z_dec zd_X9_mend 6 rfl) (t := 31) (by decide) (n := 13) rfl (fun h10 => ?_) (fun h10 => ?_)
    · refine p_ldc (z_dec zd_X9_mend 16 rfl) zq_X9_140 (n := 33) rfl ?_
      exact p_iret (z_dec zd_X9_mend 17 rfl) rfl ⟨(by unfold f_X9_mend; rw [if_pos h10]), rfl, (z_3 (by unfold m_X9_mend; rw [if_pos h10]) rfl)⟩
    · have hj := z_plof hn10 h10
      refine p_iload_n (z_dec zd_X9_mend 7 rfl) rfl 3 rfl (n := 14) rfl ?_
      refine p_iload_n (z_dec zd_X9_mend 8 rfl) rfl 4 rfl (n := 15) rfl ?_
      refine q_callS (As := [.int what, .int v]) (rest := []) (z_dec zd_X9_mend 9 rfl) zk_X9_133 zs_X9_mayBecome (c_X9_mayBecome (d - 1) (by omega) b I L what v) rfl rfl (Nat.le_of_ble_eq_true rfl) (by omega) (n := 18) rfl ?_
      show PW zm_X9_mend d 18 [(4, .int (f_X9_placeOf np n what)), (0, .ref 54), (1, .int n), (2, .int what), (3, .int v)] [.int (f_X9_mayBecome what v)] SH (I, L, z_R b) 0 0 _
      refine p_if_eq (z_dec zd_X9_mend 10 rfl) (t := 31) (by decide) (n := 21) rfl (fun h18 => ?_) (fun h18 => ?_)
      · refine p_ldc (z_dec zd_X9_mend 16 rfl) zq_X9_140 (n := 33) rfl ?_
        exact p_iret (z_dec zd_X9_mend 17 rfl) rfl ⟨(by unfold f_X9_mend; rw [if_neg h10, if_pos h18]), rfl, (z_3 (by unfold m_X9_mend; rw [if_neg h10, if_pos h18]) rfl)⟩
      · refine p_aload_n (z_dec zd_X9_mend 11 rfl) rfl 1 rfl (n := 22) rfl ?_
        refine p_iload (z_dec zd_X9_mend 12 rfl) 0 rfl (n := 24) rfl ?_
        refine p_iload_n (z_dec zd_X9_mend 13 rfl) rfl 4 rfl (n := 25) rfl ?_
        refine q_callV (As := [.int (nI ((f_X9_placeOf np n what).toNatClampNeg)), .int v]) (rest := []) (z_dec zd_X9_mend 14 rfl) zk_X9_137 zv_X9_becomes (c_X9_becomes (d - 1) (by omega) b I L dn hdn hd40 ((f_X9_placeOf np n what).toNatClampNeg) hj.2 v) rfl ⟨_, _, rfl⟩ (by simp only [← hj.1]; rfl) rfl (Nat.le_of_ble_eq_true rfl) (by omega) (n := 28) rfl ?_
        show PW zm_X9_mend d 28 [(4, .int (f_X9_placeOf np n what)), (0, .ref 54), (1, .int n), (2, .int what), (3, .int v)] [.int (f_X9_becomes I dn ((f_X9_placeOf np n what).toNatClampNeg) v)] SH ((m_X9_becomes I dn ((f_X9_placeOf np n what).toNatClampNeg) v), L, z_R b) 0 0 _
        refine p_goto (z_dec zd_X9_mend 15 rfl) (t := 33) (by decide) ?_
        exact p_iret (z_dec zd_X9_mend 17 rfl) rfl ⟨(by unfold f_X9_mend; rw [if_neg h10, if_neg h18]), rfl, (z_3 (by unfold m_X9_mend; rw [if_neg h10, if_neg h18]) rfl)⟩
  exact hentry
def f_X9_player (I : Nat → Nat → Int32) (np : Nat) (skill : Int32) : Int32 := if (f_X9_mayCome (skill.toInt64) 0 0) = 0 then (-1) else if (nI np) = 10 then (-3) else ((nI (np + 1)) - 1)
def m_X9_player (I : Nat → Nat → Int32) (np : Nat) (skill : Int32) : Nat → Nat → Int32 := if (f_X9_mayCome (skill.toInt64) 0 0) = 0 then I else if (nI np) = 10 then I else (m_X9_adds I np skill 0 0)
set_option maxHeartbeats 4000000 in
set_option maxRecDepth 100000 in
theorem c_X9_player (d : Nat) (hd : 2 ≤ d) (b : Bool) (I : Nat → Nat → Int32) (L : Nat → Nat → Int64) (np : Nat) (hnp : I 54 6 = nI np) (hn10 : np ≤ 10) (skill : Int32) : z_CT zm_X9_player d [.ref 54, .int skill] SH (I, L, z_R b) 0 0 (z_ret (some (.int (f_X9_player I np skill))) ((m_X9_player I np skill), L, z_R b)) := by
  refine z_enter (by decide +kernel) (Nat.le_of_ble_eq_true rfl) ?_
  have hentry : PW zm_X9_player d 0 [(0, .ref 54), (1, .int skill)] [] SH (I, L, z_R b) 0 0 (z_ret (some (.int (f_X9_player I np skill))) ((m_X9_player I np skill), L, z_R b)) := by
    refine p_iload_n (z_dec zd_X9_player 0 rfl) rfl 1 rfl (n := 1) rfl ?_
    refine p_i2l (z_dec zd_X9_player 1 rfl) (n := 2) rfl ?_
    refine p_lconst (z_dec zd_X9_player 2 rfl) (v := 0) (by decide) (n := 3) rfl ?_
    refine p_lconst (z_dec zd_X9_player 3 rfl) (v := 0) (by decide) (n := 4) rfl ?_
    refine q_callS (As := [.long (skill.toInt64), .long 0, .long 0]) (rest := []) (z_dec zd_X9_player 4 rfl) zk_X9_106 zs_X9_mayCome (c_X9_mayCome (d - 1) (by omega) b I L (skill.toInt64) 0 0) rfl rfl (Nat.le_of_ble_eq_true rfl) (by omega) (n := 7) rfl ?_
    show PW zm_X9_player d 7 [(0, .ref 54), (1, .int skill)] [.int (f_X9_mayCome (skill.toInt64) 0 0)] SH (I, L, z_R b) 0 0 _
    refine p_if_ne (z_dec zd_X9_player 5 rfl) (t := 12) (by decide) (n := 10) rfl (fun h7 => ?_) (fun h7 => ?_)
    · refine p_aload_n (z_dec zd_X9_player 8 rfl) rfl 0 rfl (n := 13) rfl ?_
      refine q_getI (z_dec zd_X9_player 9 rfl) zf_X9_93 (by decide) rfl (v := (nI np)) hnp (n := 16) rfl ?_
      refine p_bipush (z_dec zd_X9_player 10 rfl) (v := 10) (by decide) (n := 18) rfl ?_
      refine p_icmp_ne (z_dec zd_X9_player 11 rfl) (t := 24) (by decide) (n := 21) rfl (fun h18 => ?_) (fun h18 => ?_)
      · have hnl : np < 10 := z_neN (N := 10) hn10 (by omega) h18
        refine p_aload_n (z_dec zd_X9_player 14 rfl) rfl 0 rfl (n := 25) rfl ?_
        refine p_iload_n (z_dec zd_X9_player 15 rfl) rfl 1 rfl (n := 26) rfl ?_
        refine p_iconst (z_dec zd_X9_player 16 rfl) (v := 0) (by decide) (n := 27) rfl ?_
        refine p_iconst (z_dec zd_X9_player 17 rfl) (v := 0) (by decide) (n := 28) rfl ?_
        refine q_callV (As := [.int skill, .int 0, .int 0]) (rest := []) (z_dec zd_X9_player 18 rfl) zk_X9_109 zv_X9_adds (c_X9_adds (d - 1) (by omega) b I L np hnp hn10 skill 0 0 hnl) rfl ⟨_, _, rfl⟩ rfl rfl (Nat.le_of_ble_eq_true rfl) (by omega) (n := 31) rfl ?_
        show PW zm_X9_player d 31 [(0, .ref 54), (1, .int skill)] [] SH ((m_X9_adds I np skill 0 0), L, z_R b) 0 0 _
        refine p_aload_n (z_dec zd_X9_player 19 rfl) rfl 0 rfl (n := 32) rfl ?_
        refine q_getI (z_dec zd_X9_player 20 rfl) zf_X9_93 (by decide) rfl (v := (nI (np + 1))) (nI_1 np) (n := 35) rfl ?_
        refine p_iconst (z_dec zd_X9_player 21 rfl) (v := 1) (by decide) (n := 36) rfl ?_
        refine p_isub (z_dec zd_X9_player 22 rfl) (n := 37) rfl ?_
        exact p_iret (z_dec zd_X9_player 23 rfl) rfl ⟨(by unfold f_X9_player; rw [if_neg h7, if_neg h18]), rfl, (z_3 (by unfold m_X9_player; rw [if_neg h7, if_neg h18]) rfl)⟩
      · refine p_bipush (z_dec zd_X9_player 12 rfl) (v := (-3)) (by decide) (n := 23) rfl ?_
        exact p_iret (z_dec zd_X9_player 13 rfl) rfl ⟨(by unfold f_X9_player; rw [if_neg h7, if_pos h18]), rfl, (z_3 (by unfold m_X9_player; rw [if_neg h7, if_pos h18]) rfl)⟩
    · refine p_iconst (z_dec zd_X9_player 6 rfl) (v := (-1)) (by decide) (n := 11) rfl ?_
      exact p_iret (z_dec zd_X9_player 7 rfl) rfl ⟨(by unfold f_X9_player; rw [if_pos h7]), rfl, (z_3 (by unfold m_X9_player; rw [if_pos h7]) rfl)⟩
  exact hentry
def m_X9_runs (I : Nat → Nat → Int32) (rn : Nat) (body : Int32) : Nat → Nat → Int32 := if 24 ≤ (nI rn) then (z_up I 54 35 ((nI rn) + 1)) else (z_up (z_up I 74 rn body) 54 35 ((nI rn) + 1))
set_option maxHeartbeats 4000000 in
set_option maxRecDepth 100000 in
theorem c_X9_runs (d : Nat) (hd : 0 ≤ d) (b : Bool) (I : Nat → Nat → Int32) (L : Nat → Nat → Int64) (rn : Nat) (hrn : I 54 35 = nI rn) (hr1000 : rn < 1000) (body : Int32) : z_CT zm_X9_runs d [.ref 54, .int body] SH (I, L, z_R b) 0 0 (z_ret (none) ((m_X9_runs I rn body), L, z_R b)) := by
  refine z_enter (by decide +kernel) (Nat.le_of_ble_eq_true rfl) ?_
  have hentry : PW zm_X9_runs d 0 [(0, .ref 54), (1, .int body)] [] SH (I, L, z_R b) 0 0 (z_ret (none) ((m_X9_runs I rn body), L, z_R b)) := by
    refine p_aload_n (z_dec zd_X9_runs 0 rfl) rfl 0 rfl (n := 1) rfl ?_
    refine q_getI (z_dec zd_X9_runs 1 rfl) zf_X9_297 (by decide) rfl (v := (nI rn)) hrn (n := 4) rfl ?_
    refine p_bipush (z_dec zd_X9_runs 2 rfl) (v := 24) (by decide) (n := 6) rfl ?_
    refine p_icmp_ge (z_dec zd_X9_runs 3 rfl) (t := 19) (by decide) (n := 9) rfl (fun h6 => ?_) (fun h6 => ?_)
    · refine p_aload_n (z_dec zd_X9_runs 10 rfl) rfl 0 rfl (n := 20) rfl ?_
      refine p_dup (z_dec zd_X9_runs 11 rfl) rfl (n := 21) rfl ?_
      refine q_getI (z_dec zd_X9_runs 12 rfl) zf_X9_297 (by decide) rfl (v := (nI rn)) hrn (n := 24) rfl ?_
      refine p_iconst (z_dec zd_X9_runs 13 rfl) (v := 1) (by decide) (n := 25) rfl ?_
      refine p_iadd (z_dec zd_X9_runs 14 rfl) (n := 26) rfl ?_
      refine q_putI (z_dec zd_X9_runs 15 rfl) zp_X9_297 (fun q => by cases q) rfl (n := 29) rfl ?_
      exact p_vret (z_dec zd_X9_runs 16 rfl) rfl ⟨rfl, rfl, (z_3 (by unfold m_X9_runs; rw [if_pos h6]) rfl)⟩
    · have hrl : rn < 24 := z_nge (a := 24) h6
      refine p_aload_n (z_dec zd_X9_runs 4 rfl) rfl 0 rfl (n := 10) rfl ?_
      refine q_getR (z_dec zd_X9_runs 5 rfl) zf_X9_67 (i := 74) rfl rfl (n := 13) rfl ?_
      refine p_aload_n (z_dec zd_X9_runs 6 rfl) rfl 0 rfl (n := 14) rfl ?_
      refine q_getI (z_dec zd_X9_runs 7 rfl) zf_X9_297 (by decide) rfl (v := (nI rn)) hrn (n := 17) rfl ?_
      refine p_iload_n (z_dec zd_X9_runs 8 rfl) rfl 1 rfl (n := 18) rfl ?_
      refine q_iast (z_dec zd_X9_runs 9 rfl) rfl (by decide) (rn) rfl (by omega) (n := 19) rfl ?_
      refine p_aload_n (z_dec zd_X9_runs 10 rfl) rfl 0 rfl (n := 20) rfl ?_
      refine p_dup (z_dec zd_X9_runs 11 rfl) rfl (n := 21) rfl ?_
      refine q_getI (z_dec zd_X9_runs 12 rfl) zf_X9_297 (by decide) rfl (v := (nI rn)) hrn (n := 24) rfl ?_
      refine p_iconst (z_dec zd_X9_runs 13 rfl) (v := 1) (by decide) (n := 25) rfl ?_
      refine p_iadd (z_dec zd_X9_runs 14 rfl) (n := 26) rfl ?_
      refine q_putI (z_dec zd_X9_runs 15 rfl) zp_X9_297 (fun q => by cases q) rfl (n := 29) rfl ?_
      exact p_vret (z_dec zd_X9_runs 16 rfl) rfl ⟨rfl, rfl, (z_3 (by unfold m_X9_runs; rw [if_neg h6]) rfl)⟩
  exact hentry
def f_X9_keep (I : Nat → Nat → Int32) (bo : Nat) (sh : Int32) (w : Int32) : Int32 := if (f_X9_isShelf sh) = 0 then (-1) else if w = (-1) then 1 else if (f_X9_isBody bo w) = 0 then (-1) else 1
def m_X9_keep (I : Nat → Nat → Int32) (bo : Nat) (sh : Int32) (w : Int32) : Nat → Nat → Int32 := if (f_X9_isShelf sh) = 0 then I else if w = (-1) then (z_up (z_up I 75 sh.toNatClampNeg w) 76 sh.toNatClampNeg 0) else if (f_X9_isBody bo w) = 0 then I else (z_up (z_up I 75 sh.toNatClampNeg w) 76 sh.toNatClampNeg 0)
set_option maxHeartbeats 4000000 in
set_option maxRecDepth 100000 in
theorem c_X9_keep (d : Nat) (hd : 2 ≤ d) (b : Bool) (I : Nat → Nat → Int32) (L : Nat → Nat → Int64) (bo : Nat) (hbo : I 54 32 = nI bo) (hb50 : bo ≤ 50) (sh : Int32) (w : Int32) : z_CT zm_X9_keep d [.ref 54, .int sh, .int w] SH (I, L, z_R b) 0 0 (z_ret (some (.int (f_X9_keep I bo sh w))) ((m_X9_keep I bo sh w), L, z_R b)) := by
  refine z_enter (by decide +kernel) (Nat.le_of_ble_eq_true rfl) ?_
  have hentry : PW zm_X9_keep d 0 [(0, .ref 54), (1, .int sh), (2, .int w)] [] SH (I, L, z_R b) 0 0 (z_ret (some (.int (f_X9_keep I bo sh w))) ((m_X9_keep I bo sh w), L, z_R b)) := by
    refine p_iload_n (z_dec zd_X9_keep 0 rfl) rfl 1 rfl (n := 1) rfl ?_
    refine q_callS (As := [.int sh]) (rest := []) (z_dec zd_X9_keep 1 rfl) zk_X9_113 zs_X9_isShelf (c_X9_isShelf (d - 1) (by omega) b I L sh) rfl rfl (Nat.le_of_ble_eq_true rfl) (by omega) (n := 4) rfl ?_
    show PW zm_X9_keep d 4 [(0, .ref 54), (1, .int sh), (2, .int w)] [.int (f_X9_isShelf sh)] SH (I, L, z_R b) 0 0 _
    refine p_if_eq (z_dec zd_X9_keep 2 rfl) (t := 20) (by decide) (n := 7) rfl (fun h4 => ?_) (fun h4 => ?_)
    · refine p_iconst (z_dec zd_X9_keep 10 rfl) (v := (-1)) (by decide) (n := 21) rfl ?_
      exact p_iret (z_dec zd_X9_keep 11 rfl) rfl ⟨(by unfold f_X9_keep; rw [if_pos h4]), rfl, (z_3 (by unfold m_X9_keep; rw [if_pos h4]) rfl)⟩
    · have hj_sh := z_shf h4
      refine p_iload_n (z_dec zd_X9_keep 3 rfl) rfl 2 rfl (n := 8) rfl ?_
      refine p_iconst (z_dec zd_X9_keep 4 rfl) (v := (-1)) (by decide) (n := 9) rfl ?_
      refine p_icmp_eq (z_dec zd_X9_keep 5 rfl) (t := 22) (by decide) (n := 12) rfl (fun h9 => ?_) (fun h9 => ?_)
      · refine p_aload_n (z_dec zd_X9_keep 12 rfl) rfl 0 rfl (n := 23) rfl ?_
        refine q_getR (z_dec zd_X9_keep 13 rfl) zf_X9_70 (i := 75) rfl rfl (n := 26) rfl ?_
        refine p_iload_n (z_dec zd_X9_keep 14 rfl) rfl 1 rfl (n := 27) rfl ?_
        refine p_iload_n (z_dec zd_X9_keep 15 rfl) rfl 2 rfl (n := 28) rfl ?_
        refine q_iast (z_dec zd_X9_keep 16 rfl) rfl (by decide) (sh.toNatClampNeg) hj_sh.1 hj_sh.2 (n := 29) rfl ?_
        refine p_aload_n (z_dec zd_X9_keep 17 rfl) rfl 0 rfl (n := 30) rfl ?_
        refine q_getR (z_dec zd_X9_keep 18 rfl) zf_X9_73 (i := 76) rfl rfl (n := 33) rfl ?_
        refine p_iload_n (z_dec zd_X9_keep 19 rfl) rfl 1 rfl (n := 34) rfl ?_
        refine p_iconst (z_dec zd_X9_keep 20 rfl) (v := 0) (by decide) (n := 35) rfl ?_
        refine q_iast (z_dec zd_X9_keep 21 rfl) rfl (by decide) (sh.toNatClampNeg) hj_sh.1 hj_sh.2 (n := 36) rfl ?_
        refine p_iconst (z_dec zd_X9_keep 22 rfl) (v := 1) (by decide) (n := 37) rfl ?_
        exact p_iret (z_dec zd_X9_keep 23 rfl) rfl ⟨(by unfold f_X9_keep; rw [if_neg h4, if_pos h9]), rfl, (z_3 (by unfold m_X9_keep; rw [if_neg h4, if_pos h9]) rfl)⟩
      · refine p_aload_n (z_dec zd_X9_keep 6 rfl) rfl 0 rfl (n := 13) rfl ?_
        refine p_iload_n (z_dec zd_X9_keep 7 rfl) rfl 2 rfl (n := 14) rfl ?_
        refine q_callV (As := [.int w]) (rest := []) (z_dec zd_X9_keep 8 rfl) zk_X9_321 zv_X9_isBody (c_X9_isBody (d - 1) (by omega) b I L bo hbo hb50 w) rfl ⟨_, _, rfl⟩ rfl rfl (Nat.le_of_ble_eq_true rfl) (by omega) (n := 17) rfl ?_
        show PW zm_X9_keep d 17 [(0, .ref 54), (1, .int sh), (2, .int w)] [.int (f_X9_isBody bo w)] SH (I, L, z_R b) 0 0 _
        refine p_if_ne (z_dec zd_X9_keep 9 rfl) (t := 22) (by decide) (n := 20) rfl (fun h17 => ?_) (fun h17 => ?_)
        · refine p_aload_n (z_dec zd_X9_keep 12 rfl) rfl 0 rfl (n := 23) rfl ?_
          refine q_getR (z_dec zd_X9_keep 13 rfl) zf_X9_70 (i := 75) rfl rfl (n := 26) rfl ?_
          refine p_iload_n (z_dec zd_X9_keep 14 rfl) rfl 1 rfl (n := 27) rfl ?_
          refine p_iload_n (z_dec zd_X9_keep 15 rfl) rfl 2 rfl (n := 28) rfl ?_
          refine q_iast (z_dec zd_X9_keep 16 rfl) rfl (by decide) (sh.toNatClampNeg) hj_sh.1 hj_sh.2 (n := 29) rfl ?_
          refine p_aload_n (z_dec zd_X9_keep 17 rfl) rfl 0 rfl (n := 30) rfl ?_
          refine q_getR (z_dec zd_X9_keep 18 rfl) zf_X9_73 (i := 76) rfl rfl (n := 33) rfl ?_
          refine p_iload_n (z_dec zd_X9_keep 19 rfl) rfl 1 rfl (n := 34) rfl ?_
          refine p_iconst (z_dec zd_X9_keep 20 rfl) (v := 0) (by decide) (n := 35) rfl ?_
          refine q_iast (z_dec zd_X9_keep 21 rfl) rfl (by decide) (sh.toNatClampNeg) hj_sh.1 hj_sh.2 (n := 36) rfl ?_
          refine p_iconst (z_dec zd_X9_keep 22 rfl) (v := 1) (by decide) (n := 37) rfl ?_
          exact p_iret (z_dec zd_X9_keep 23 rfl) rfl ⟨(by unfold f_X9_keep; rw [if_neg h4, if_neg h9, if_neg h17]), rfl, (z_3 (by unfold m_X9_keep; rw [if_neg h4, if_neg h9, if_neg h17]) rfl)⟩
        · refine p_iconst (z_dec zd_X9_keep 10 rfl) (v := (-1)) (by decide) (n := 21) rfl ?_
          exact p_iret (z_dec zd_X9_keep 11 rfl) rfl ⟨(by unfold f_X9_keep; rw [if_neg h4, if_neg h9, if_pos h17]), rfl, (z_3 (by unfold m_X9_keep; rw [if_neg h4, if_neg h9, if_pos h17]) rfl)⟩
  exact hentry
def gb_X9_row_57 (L : Nat → Nat → Int64) (sh : Int32) (i57 : Nat) (s : (Nat → Nat → Int64)) : (Nat → Nat → Int64) := (z_up s 77 (60 * sh.toNatClampNeg + i57) 0)
def g_X9_row_57 (L : Nat → Nat → Int64) (sh : Int32) : Nat → (Nat → Nat → Int64)
  | 0 => L
  | i57 + 1 => gb_X9_row_57 L sh i57 (g_X9_row_57 L sh i57)
def f_X9_row (I : Nat → Nat → Int32) (L : Nat → Nat → Int64) (sh : Int32) (s : Int32) (n : Int32) : Int32 := if (f_X9_isShelf sh) = 0 then (-1) else if (f_X9_within (s.toInt64) 0 4) = 0 then (-1) else if n ≤ 60 then if 0 ≤ n then 1 else (-14) else (-1)
def m_X9_row (I : Nat → Nat → Int32) (L : Nat → Nat → Int64) (sh : Int32) (s : Int32) (n : Int32) : Nat → Nat → Int32 := if (f_X9_isShelf sh) = 0 then I else if (f_X9_within (s.toInt64) 0 4) = 0 then I else if n ≤ 60 then if 0 ≤ n then (z_up (z_up I 75 sh.toNatClampNeg (50 + s)) 76 sh.toNatClampNeg n) else I else I
def n_X9_row (I : Nat → Nat → Int32) (L : Nat → Nat → Int64) (sh : Int32) (s : Int32) (n : Int32) : Nat → Nat → Int64 := if (f_X9_isShelf sh) = 0 then L else if (f_X9_within (s.toInt64) 0 4) = 0 then L else if n ≤ 60 then if 0 ≤ n then (g_X9_row_57 L sh 60) else L else L
set_option maxHeartbeats 4000000 in
set_option maxRecDepth 100000 in
theorem c_X9_row (d : Nat) (hd : 2 ≤ d) (b : Bool) (I : Nat → Nat → Int32) (L : Nat → Nat → Int64) (sh : Int32) (s : Int32) (n : Int32) : z_CT zm_X9_row d [.ref 54, .int sh, .int s, .int n] SH (I, L, z_R b) 0 0 (z_ret (some (.int (f_X9_row I L sh s n))) ((m_X9_row I L sh s n), (n_X9_row I L sh s n), z_R b)) := by
  refine z_enter (by decide +kernel) (Nat.le_of_ble_eq_true rfl) ?_
  have hentry : PW zm_X9_row d 0 [(0, .ref 54), (1, .int sh), (2, .int s), (3, .int n)] [] SH (I, L, z_R b) 0 0 (z_ret (some (.int (f_X9_row I L sh s n))) ((m_X9_row I L sh s n), (n_X9_row I L sh s n), z_R b)) := by
    refine p_iload_n (z_dec zd_X9_row 0 rfl) rfl 1 rfl (n := 1) rfl ?_
    refine q_callS (As := [.int sh]) (rest := []) (z_dec zd_X9_row 1 rfl) zk_X9_113 zs_X9_isShelf (c_X9_isShelf (d - 1) (by omega) b I L sh) rfl rfl (Nat.le_of_ble_eq_true rfl) (by omega) (n := 4) rfl ?_
    show PW zm_X9_row d 4 [(0, .ref 54), (1, .int sh), (2, .int s), (3, .int n)] [.int (f_X9_isShelf sh)] SH (I, L, z_R b) 0 0 _
    refine p_if_eq (z_dec zd_X9_row 2 rfl) (t := 25) (by decide) (n := 7) rfl (fun h4 => ?_) (fun h4 => ?_)
    · refine p_iconst (z_dec zd_X9_row 12 rfl) (v := (-1)) (by decide) (n := 26) rfl ?_
      exact p_iret (z_dec zd_X9_row 13 rfl) rfl ⟨(by unfold f_X9_row; rw [if_pos h4]), rfl, (z_3 (by unfold m_X9_row; rw [if_pos h4]) (by unfold n_X9_row; rw [if_pos h4]))⟩
    · have hj_sh := z_shf h4
      refine p_iload_n (z_dec zd_X9_row 3 rfl) rfl 2 rfl (n := 8) rfl ?_
      refine p_i2l (z_dec zd_X9_row 4 rfl) (n := 9) rfl ?_
      refine p_lconst (z_dec zd_X9_row 5 rfl) (v := 0) (by decide) (n := 10) rfl ?_
      refine p_ldc2 (z_dec zd_X9_row 6 rfl) zq_X9_125 (n := 13) rfl ?_
      refine q_callS (As := [.long (s.toInt64), .long 0, .long 4]) (rest := []) (z_dec zd_X9_row 7 rfl) zk_X9_96 zs_X9_within (c_X9_within (d - 1) (by omega) b I L (s.toInt64) 0 4) rfl rfl (Nat.le_of_ble_eq_true rfl) (by omega) (n := 16) rfl ?_
      show PW zm_X9_row d 16 [(0, .ref 54), (1, .int sh), (2, .int s), (3, .int n)] [.int (f_X9_within (s.toInt64) 0 4)] SH (I, L, z_R b) 0 0 _
      refine p_if_eq (z_dec zd_X9_row 8 rfl) (t := 25) (by decide) (n := 19) rfl (fun h16 => ?_) (fun h16 => ?_)
      · refine p_iconst (z_dec zd_X9_row 12 rfl) (v := (-1)) (by decide) (n := 26) rfl ?_
        exact p_iret (z_dec zd_X9_row 13 rfl) rfl ⟨(by unfold f_X9_row; rw [if_neg h4, if_pos h16]), rfl, (z_3 (by unfold m_X9_row; rw [if_neg h4, if_pos h16]) (by unfold n_X9_row; rw [if_neg h4, if_pos h16]))⟩
      · refine p_iload_n (z_dec zd_X9_row 9 rfl) rfl 3 rfl (n := 20) rfl ?_
        refine p_bipush (z_dec zd_X9_row 10 rfl) (v := 60) (by decide) (n := 22) rfl ?_
        refine p_icmp_le (z_dec zd_X9_row 11 rfl) (t := 27) (by decide) (n := 25) rfl (fun h22 => ?_) (fun h22 => ?_)
        · refine p_iload_n (z_dec zd_X9_row 14 rfl) rfl 3 rfl (n := 28) rfl ?_
          refine p_if_ge (z_dec zd_X9_row 15 rfl) (t := 34) (by decide) (n := 31) rfl (fun h28 => ?_) (fun h28 => ?_)
          · refine p_aload_n (z_dec zd_X9_row 18 rfl) rfl 0 rfl (n := 35) rfl ?_
            refine q_getR (z_dec zd_X9_row 19 rfl) zf_X9_70 (i := 75) rfl rfl (n := 38) rfl ?_
            refine p_iload_n (z_dec zd_X9_row 20 rfl) rfl 1 rfl (n := 39) rfl ?_
            refine p_bipush (z_dec zd_X9_row 21 rfl) (v := 50) (by decide) (n := 41) rfl ?_
            refine p_iload_n (z_dec zd_X9_row 22 rfl) rfl 2 rfl (n := 42) rfl ?_
            refine p_iadd (z_dec zd_X9_row 23 rfl) (n := 43) rfl ?_
            refine q_iast (z_dec zd_X9_row 24 rfl) rfl (by decide) (sh.toNatClampNeg) hj_sh.1 hj_sh.2 (n := 44) rfl ?_
            refine p_aload_n (z_dec zd_X9_row 25 rfl) rfl 0 rfl (n := 45) rfl ?_
            refine q_getR (z_dec zd_X9_row 26 rfl) zf_X9_73 (i := 76) rfl rfl (n := 48) rfl ?_
            refine p_iload_n (z_dec zd_X9_row 27 rfl) rfl 1 rfl (n := 49) rfl ?_
            refine p_iload_n (z_dec zd_X9_row 28 rfl) rfl 3 rfl (n := 50) rfl ?_
            refine q_iast (z_dec zd_X9_row 29 rfl) rfl (by decide) (sh.toNatClampNeg) hj_sh.1 hj_sh.2 (n := 51) rfl ?_
            refine p_bipush (z_dec zd_X9_row 30 rfl) (v := 60) (by decide) (n := 53) rfl ?_
            refine p_iload_n (z_dec zd_X9_row 31 rfl) rfl 1 rfl (n := 54) rfl ?_
            refine p_imul (z_dec zd_X9_row 32 rfl) (n := 55) rfl ?_
            refine p_istore (z_dec zd_X9_row 33 rfl) (lv2 := [(4, .int (60 * sh)), (0, .ref 54), (1, .int sh), (2, .int s), (3, .int n)]) (by decide) rfl (n := 57) rfl ?_
            have hL57 : ∀ i57, i57 ≤ 60 → PW zm_X9_row d 57 [(4, .int (nI (60 * sh.toNatClampNeg + i57))), (0, .ref 54), (1, .int sh), (2, .int s), (3, .int n)] [] SH ((z_up (z_up I 75 sh.toNatClampNeg (50 + s)) 76 sh.toNatClampNeg n), (g_X9_row_57 L sh i57), z_R b) 0 0 (z_ret (some (.int (f_X9_row I L sh s n))) ((m_X9_row I L sh s n), (n_X9_row I L sh s n), z_R b)) := by
              refine z_down 60 (fun i57 hi57 ih57 => ?_)
              refine p_iload (z_dec zd_X9_row 34 rfl) 0 rfl (n := 59) rfl ?_
              refine p_bipush (z_dec zd_X9_row 35 rfl) (v := 60) (by decide) (n := 61) rfl ?_
              refine p_iload_n (z_dec zd_X9_row 36 rfl) rfl 2 rfl (n := 62) rfl ?_
              refine p_imul (z_dec zd_X9_row 37 rfl) (n := 63) rfl ?_
              refine p_bipush (z_dec zd_X9_row 38 rfl) (v := 60) (by decide) (n := 65) rfl ?_
              refine p_iadd (z_dec zd_X9_row 39 rfl) (n := 66) rfl ?_
              refine p_icmp_ge (z_dec zd_X9_row 40 rfl) (t := 83) (by decide) (n := 69) rfl (fun h66 => ?_) (fun h66 => ?_)
              · have hx57 : i57 = 60 := by have := z_ge (a := 60 * sh.toNatClampNeg + 60) (b := 60 * sh.toNatClampNeg + i57) (by rw [← z_addE (z_mulE (a := 60) rfl hj_sh.1) (b := 60) rfl]; exact h66); omega
                rw [hx57]
                refine p_iconst (z_dec zd_X9_row 48 rfl) (v := 1) (by decide) (n := 84) rfl ?_
                exact p_iret (z_dec zd_X9_row 49 rfl) rfl ⟨(by unfold f_X9_row; rw [if_neg h4, if_neg h16, if_pos h22, if_pos h28]), rfl, (z_3 (by unfold m_X9_row; rw [if_neg h4, if_neg h16, if_pos h22, if_pos h28]) (by unfold n_X9_row; rw [if_neg h4, if_neg h16, if_pos h22, if_pos h28]))⟩
              · have hx57 : i57 < 60 := by have := z_nge (a := 60 * sh.toNatClampNeg + 60) (b := 60 * sh.toNatClampNeg + i57) (by rw [← z_addE (z_mulE (a := 60) rfl hj_sh.1) (b := 60) rfl]; exact h66); omega
                refine p_aload_n (z_dec zd_X9_row 41 rfl) rfl 1 rfl (n := 70) rfl ?_
                refine q_getR (z_dec zd_X9_row 42 rfl) zf_X9_76 (i := 77) rfl rfl (n := 73) rfl ?_
                refine p_iload (z_dec zd_X9_row 43 rfl) 0 rfl (n := 75) rfl ?_
                refine p_lconst (z_dec zd_X9_row 44 rfl) (v := 0) (by decide) (n := 76) rfl ?_
                refine q_last (z_dec zd_X9_row 45 rfl) rfl (by decide) ((60 * sh.toNatClampNeg + i57)) rfl (by omega) (n := 77) rfl ?_
                refine p_iinc (z_dec zd_X9_row 46 rfl) 0 rfl (v := (nI ((60 * sh.toNatClampNeg + i57) + 1))) (nI_1 _) (lv2 := [(4, .int (nI ((60 * sh.toNatClampNeg + i57) + 1))), (0, .ref 54), (1, .int sh), (2, .int s), (3, .int n)]) (by decide) rfl (n := 80) rfl ?_
                refine p_goto (z_dec zd_X9_row 47 rfl) (t := 57) (by decide) ?_
                have eb : (g_X9_row_57 L sh) (i57 + 1) = (z_up (g_X9_row_57 L sh i57) 77 (60 * sh.toNatClampNeg + i57) 0) := by show gb_X9_row_57 L sh i57 ((g_X9_row_57 L sh) i57) = _; unfold gb_X9_row_57; rfl
                refine z_lv (lv' := [(4, .int (nI (60 * sh.toNatClampNeg + (i57 + 1)))), (0, .ref 54), (1, .int sh), (2, .int s), (3, .int n)]) rfl rfl (by rw [eb]) (ih57 (by omega))
            refine z_lv (lv' := [(4, .int (nI (60 * sh.toNatClampNeg + 0))), (0, .ref 54), (1, .int sh), (2, .int s), (3, .int n)]) (by rw [show (60 : Int32) * sh = nI (60 * sh.toNatClampNeg + 0) from z_mulE (a := 60) rfl hj_sh.1]) rfl rfl (hL57 0 (Nat.zero_le _))
          · refine p_bipush (z_dec zd_X9_row 16 rfl) (v := (-14)) (by decide) (n := 33) rfl ?_
            exact p_iret (z_dec zd_X9_row 17 rfl) rfl ⟨(by unfold f_X9_row; rw [if_neg h4, if_neg h16, if_pos h22, if_neg h28]), rfl, (z_3 (by unfold m_X9_row; rw [if_neg h4, if_neg h16, if_pos h22, if_neg h28]) (by unfold n_X9_row; rw [if_neg h4, if_neg h16, if_pos h22, if_neg h28]))⟩
        · refine p_iconst (z_dec zd_X9_row 12 rfl) (v := (-1)) (by decide) (n := 26) rfl ?_
          exact p_iret (z_dec zd_X9_row 13 rfl) rfl ⟨(by unfold f_X9_row; rw [if_neg h4, if_neg h16, if_neg h22]), rfl, (z_3 (by unfold m_X9_row; rw [if_neg h4, if_neg h16, if_neg h22]) (by unfold n_X9_row; rw [if_neg h4, if_neg h16, if_neg h22]))⟩
  exact hentry
def f_X9_put (I : Nat → Nat → Int32) (L : Nat → Nat → Int64) (sh : Int32) (i : Int32) (v : Int64) : Int32 := if (f_X9_refusal I sh i) = 0 then if (f_X9_refusal I sh i) = 0 then 1 else (f_X9_refusal I sh i) else if (f_X9_refusal I sh i) = 0 then 1 else (f_X9_refusal I sh i)
def n_X9_put (I : Nat → Nat → Int32) (L : Nat → Nat → Int64) (sh : Int32) (i : Int32) (v : Int64) : Nat → Nat → Int64 := if (f_X9_refusal I sh i) = 0 then if (f_X9_refusal I sh i) = 0 then (z_up L 77 ((60 * sh.toNatClampNeg) + i.toNatClampNeg) (f_X9_asSort ((I 75 sh.toNatClampNeg) - 50) v)) else (z_up L 77 ((60 * sh.toNatClampNeg) + i.toNatClampNeg) (f_X9_asSort ((I 75 sh.toNatClampNeg) - 50) v)) else if (f_X9_refusal I sh i) = 0 then L else L
set_option maxHeartbeats 4000000 in
set_option maxRecDepth 100000 in
theorem c_X9_put (d : Nat) (hd : 3 ≤ d) (b : Bool) (I : Nat → Nat → Int32) (L : Nat → Nat → Int64) (sh : Int32) (i : Int32) (v : Int64) (hmn : ∀ j, j < 6 → I 76 j = nI (I 76 j).toNatClampNeg ∧ (I 76 j).toNatClampNeg ≤ 60) : z_CT zm_X9_put d [.ref 54, .int sh, .int i, .long v] SH (I, L, z_R b) 0 0 (z_ret (some (.int (f_X9_put I L sh i v))) (I, (n_X9_put I L sh i v), z_R b)) := by
  refine z_enter (by decide +kernel) (Nat.le_of_ble_eq_true rfl) ?_
  have hentry : PW zm_X9_put d 0 [(0, .ref 54), (1, .int sh), (2, .int i), (3, .long v)] [] SH (I, L, z_R b) 0 0 (z_ret (some (.int (f_X9_put I L sh i v))) (I, (n_X9_put I L sh i v), z_R b)) := by
    refine p_aload_n (z_dec zd_X9_put 0 rfl) rfl 0 rfl (n := 1) rfl ?_
    refine p_iload_n (z_dec zd_X9_put 1 rfl) rfl 1 rfl (n := 2) rfl ?_
    refine p_iload_n (z_dec zd_X9_put 2 rfl) rfl 2 rfl (n := 3) rfl ?_
    refine q_callV (As := [.int sh, .int i]) (rest := []) (z_dec zd_X9_put 3 rfl) zk_X9_324 zv_X9_refusal (c_X9_refusal (d - 1) (by omega) b I L sh i) rfl ⟨_, _, rfl⟩ rfl rfl (Nat.le_of_ble_eq_true rfl) (by omega) (n := 6) rfl ?_
    show PW zm_X9_put d 6 [(0, .ref 54), (1, .int sh), (2, .int i), (3, .long v)] [.int (f_X9_refusal I sh i)] SH (I, L, z_R b) 0 0 _
    refine p_istore (z_dec zd_X9_put 4 rfl) (lv2 := [(5, .int (f_X9_refusal I sh i)), (0, .ref 54), (1, .int sh), (2, .int i), (3, .long v)]) (by decide) rfl (n := 8) rfl ?_
    refine p_iload (z_dec zd_X9_put 5 rfl) 0 rfl (n := 10) rfl ?_
    refine p_if_ne (z_dec zd_X9_put 6 rfl) (t := 37) (by decide) (n := 13) rfl (fun h10 => ?_) (fun h10 => ?_)
    · refine p_iload (z_dec zd_X9_put 23 rfl) 0 rfl (n := 39) rfl ?_
      refine p_if_ne (z_dec zd_X9_put 24 rfl) (t := 46) (by decide) (n := 42) rfl (fun h39 => ?_) (fun h39 => ?_)
      · refine p_iload (z_dec zd_X9_put 27 rfl) 0 rfl (n := 48) rfl ?_
        exact p_iret (z_dec zd_X9_put 28 rfl) rfl ⟨(by unfold f_X9_put; rw [if_neg h10, if_neg h39]), rfl, (z_3 rfl (by unfold n_X9_put; rw [if_neg h10, if_neg h39]))⟩
      · refine p_iconst (z_dec zd_X9_put 25 rfl) (v := 1) (by decide) (n := 43) rfl ?_
        refine p_goto (z_dec zd_X9_put 26 rfl) (t := 48) (by decide) ?_
        exact p_iret (z_dec zd_X9_put 28 rfl) rfl ⟨(by unfold f_X9_put; rw [if_neg h10, if_pos h39]), rfl, (z_3 rfl (by unfold n_X9_put; rw [if_neg h10, if_pos h39]))⟩
    · have hj := z_ref hmn h10
      refine p_aload_n (z_dec zd_X9_put 7 rfl) rfl 1 rfl (n := 14) rfl ?_
      refine q_getR (z_dec zd_X9_put 8 rfl) zf_X9_76 (i := 77) rfl rfl (n := 17) rfl ?_
      refine p_bipush (z_dec zd_X9_put 9 rfl) (v := 60) (by decide) (n := 19) rfl ?_
      refine p_iload_n (z_dec zd_X9_put 10 rfl) rfl 2 rfl (n := 20) rfl ?_
      refine p_imul (z_dec zd_X9_put 11 rfl) (n := 21) rfl ?_
      refine p_iload_n (z_dec zd_X9_put 12 rfl) rfl 3 rfl (n := 22) rfl ?_
      refine p_iadd (z_dec zd_X9_put 13 rfl) (n := 23) rfl ?_
      refine p_aload_n (z_dec zd_X9_put 14 rfl) rfl 1 rfl (n := 24) rfl ?_
      refine q_getR (z_dec zd_X9_put 15 rfl) zf_X9_70 (i := 75) rfl rfl (n := 27) rfl ?_
      refine p_iload_n (z_dec zd_X9_put 16 rfl) rfl 2 rfl (n := 28) rfl ?_
      refine q_iald (z_dec zd_X9_put 17 rfl) rfl (by decide) (sh.toNatClampNeg) hj.1.1 hj.1.2 (v := (I 75 sh.toNatClampNeg)) rfl (n := 29) rfl ?_
      refine p_bipush (z_dec zd_X9_put 18 rfl) (v := 50) (by decide) (n := 31) rfl ?_
      refine p_isub (z_dec zd_X9_put 19 rfl) (n := 32) rfl ?_
      refine p_lload_n (z_dec zd_X9_put 20 rfl) rfl 4 rfl (n := 33) rfl ?_
      refine q_callS (As := [.int ((I 75 sh.toNatClampNeg) - 50), .long v]) (rest := [.int ((60 * sh) + i), .ref 77]) (z_dec zd_X9_put 21 rfl) zk_X9_327 zs_X9_asSort (c_X9_asSort (d - 1) (by omega) b I L ((I 75 sh.toNatClampNeg) - 50) v) rfl rfl (Nat.le_of_ble_eq_true rfl) (by omega) (n := 36) rfl ?_
      show PW zm_X9_put d 36 [(5, .int (f_X9_refusal I sh i)), (0, .ref 54), (1, .int sh), (2, .int i), (3, .long v)] [.long (f_X9_asSort ((I 75 sh.toNatClampNeg) - 50) v), .int ((60 * sh) + i), .ref 77] SH (I, L, z_R b) 0 0 _
      refine q_last (z_dec zd_X9_put 22 rfl) rfl (by decide) ((60 * sh.toNatClampNeg) + i.toNatClampNeg) (z_addE (z_mulE rfl hj.1.1) hj.2.1) (by omega) (n := 37) rfl ?_
      refine p_iload (z_dec zd_X9_put 23 rfl) 0 rfl (n := 39) rfl ?_
      refine p_if_ne (z_dec zd_X9_put 24 rfl) (t := 46) (by decide) (n := 42) rfl (fun h39 => ?_) (fun h39 => ?_)
      · refine p_iload (z_dec zd_X9_put 27 rfl) 0 rfl (n := 48) rfl ?_
        exact p_iret (z_dec zd_X9_put 28 rfl) rfl ⟨(by unfold f_X9_put; rw [if_pos h10, if_neg h39]), rfl, (z_3 rfl (by unfold n_X9_put; rw [if_pos h10, if_neg h39]))⟩
      · refine p_iconst (z_dec zd_X9_put 25 rfl) (v := 1) (by decide) (n := 43) rfl ?_
        refine p_goto (z_dec zd_X9_put 26 rfl) (t := 48) (by decide) ?_
        exact p_iret (z_dec zd_X9_put 28 rfl) rfl ⟨(by unfold f_X9_put; rw [if_pos h10, if_pos h39]), rfl, (z_3 rfl (by unfold n_X9_put; rw [if_pos h10, if_pos h39]))⟩
  exact hentry
def f_X9_element (I : Nat → Nat → Int32) (L : Nat → Nat → Int64) (sh : Int32) (i : Int32) : Int64 := if (f_X9_refusal I sh i) = 0 then (L 77 ((60 * sh.toNatClampNeg) + i.toNatClampNeg)) else (-9223372036854775808)
set_option maxHeartbeats 4000000 in
set_option maxRecDepth 100000 in
theorem c_X9_element (d : Nat) (hd : 3 ≤ d) (b : Bool) (I : Nat → Nat → Int32) (L : Nat → Nat → Int64) (sh : Int32) (i : Int32) (hmn : ∀ j, j < 6 → I 76 j = nI (I 76 j).toNatClampNeg ∧ (I 76 j).toNatClampNeg ≤ 60) : z_CT zm_X9_element d [.ref 54, .int sh, .int i] SH (I, L, z_R b) 0 0 (z_ret (some (.long (f_X9_element I L sh i))) (I, L, z_R b)) := by
  refine z_enter (by decide +kernel) (Nat.le_of_ble_eq_true rfl) ?_
  have hentry : PW zm_X9_element d 0 [(0, .ref 54), (1, .int sh), (2, .int i)] [] SH (I, L, z_R b) 0 0 (z_ret (some (.long (f_X9_element I L sh i))) (I, L, z_R b)) := by
    refine p_aload_n (z_dec zd_X9_element 0 rfl) rfl 0 rfl (n := 1) rfl ?_
    refine p_iload_n (z_dec zd_X9_element 1 rfl) rfl 1 rfl (n := 2) rfl ?_
    refine p_iload_n (z_dec zd_X9_element 2 rfl) rfl 2 rfl (n := 3) rfl ?_
    refine q_callV (As := [.int sh, .int i]) (rest := []) (z_dec zd_X9_element 3 rfl) zk_X9_324 zv_X9_refusal (c_X9_refusal (d - 1) (by omega) b I L sh i) rfl ⟨_, _, rfl⟩ rfl rfl (Nat.le_of_ble_eq_true rfl) (by omega) (n := 6) rfl ?_
    show PW zm_X9_element d 6 [(0, .ref 54), (1, .int sh), (2, .int i)] [.int (f_X9_refusal I sh i)] SH (I, L, z_R b) 0 0 _
    refine p_if_eq (z_dec zd_X9_element 4 rfl) (t := 15) (by decide) (n := 9) rfl (fun h6 => ?_) (fun h6 => ?_)
    · have hj := z_ref hmn h6
      refine p_aload_n (z_dec zd_X9_element 7 rfl) rfl 0 rfl (n := 16) rfl ?_
      refine q_getR (z_dec zd_X9_element 8 rfl) zf_X9_76 (i := 77) rfl rfl (n := 19) rfl ?_
      refine p_bipush (z_dec zd_X9_element 9 rfl) (v := 60) (by decide) (n := 21) rfl ?_
      refine p_iload_n (z_dec zd_X9_element 10 rfl) rfl 1 rfl (n := 22) rfl ?_
      refine p_imul (z_dec zd_X9_element 11 rfl) (n := 23) rfl ?_
      refine p_iload_n (z_dec zd_X9_element 12 rfl) rfl 2 rfl (n := 24) rfl ?_
      refine p_iadd (z_dec zd_X9_element 13 rfl) (n := 25) rfl ?_
      refine q_lald (z_dec zd_X9_element 14 rfl) rfl (by decide) ((60 * sh.toNatClampNeg) + i.toNatClampNeg) (z_addE (z_mulE rfl hj.1.1) hj.2.1) (by omega) (v := (L 77 ((60 * sh.toNatClampNeg) + i.toNatClampNeg))) rfl (n := 26) rfl ?_
      exact p_lret (z_dec zd_X9_element 15 rfl) rfl ⟨(by unfold f_X9_element; rw [if_pos h6]), rfl, rfl⟩
    · refine p_ldc2 (z_dec zd_X9_element 5 rfl) zq_X9_260 (n := 12) rfl ?_
      refine p_goto (z_dec zd_X9_element 6 rfl) (t := 26) (by decide) ?_
      exact p_lret (z_dec zd_X9_element 15 rfl) rfl ⟨(by unfold f_X9_element; rw [if_neg h6]), rfl, rfl⟩
  exact hentry
def f_X9_judges (I : Nat → Nat → Int32) (np : Nat) : Int32 := (f_X9_judgesNow (m_X9_begins I np) np)
def m_X9_judges (I : Nat → Nat → Int32) (np : Nat) : Nat → Nat → Int32 := (m_X9_begins I np)
set_option maxHeartbeats 4000000 in
set_option maxRecDepth 100000 in
theorem c_X9_judges (d : Nat) (hd : 1 ≤ d) (b : Bool) (I : Nat → Nat → Int32) (L : Nat → Nat → Int64) (np : Nat) (hnp : I 54 6 = nI np) (hn10 : np ≤ 10) : z_CT zm_X9_judges d [.ref 54] SH (I, L, z_R b) 0 0 (z_ret (some (.int (f_X9_judges I np))) ((m_X9_judges I np), L, z_R b)) := by
  refine z_enter (by decide +kernel) (Nat.le_of_ble_eq_true rfl) ?_
  have hentry : PW zm_X9_judges d 0 [(0, .ref 54)] [] SH (I, L, z_R b) 0 0 (z_ret (some (.int (f_X9_judges I np))) ((m_X9_judges I np), L, z_R b)) := by
    refine p_aload_n (z_dec zd_X9_judges 0 rfl) rfl 0 rfl (n := 1) rfl ?_
    refine q_callV (As := []) (rest := []) (z_dec zd_X9_judges 1 rfl) zk_X9_206 zv_X9_begins (c_X9_begins (d - 1) (by omega) b I L np hnp hn10) rfl ⟨_, _, rfl⟩ rfl rfl (Nat.le_of_ble_eq_true rfl) (by omega) (n := 4) rfl ?_
    show PW zm_X9_judges d 4 [(0, .ref 54)] [] SH ((m_X9_begins I np), L, z_R b) 0 0 _
    refine p_aload_n (z_dec zd_X9_judges 2 rfl) rfl 0 rfl (n := 5) rfl ?_
    refine q_callV (As := []) (rest := []) (z_dec zd_X9_judges 3 rfl) zk_X9_213 zv_X9_judgesNow (c_X9_judgesNow (d - 1) (by omega) b (m_X9_begins I np) L np ((z_begO _ _ _ _ (by decide) (by decide) (by decide) (Or.inr (by decide))).trans hnp) hn10) rfl ⟨_, _, rfl⟩ rfl rfl (Nat.le_of_ble_eq_true rfl) (by omega) (n := 8) rfl ?_
    show PW zm_X9_judges d 8 [(0, .ref 54)] [.int (f_X9_judgesNow (m_X9_begins I np) np)] SH ((m_X9_begins I np), L, z_R b) 0 0 _
    exact p_iret (z_dec zd_X9_judges 4 rfl) rfl ⟨(by unfold f_X9_judges; rfl), rfl, (z_3 (by unfold m_X9_judges; rfl) rfl)⟩
  exact hentry
def gb_X9_three_8 (I : Nat → Nat → Int32) (np : Nat) (i8 : Nat) (s : Int32) : Int32 := if ((((m_X9_begins I np) 63 i8) &&& (((m_X9_begins I np) 63 i8) >>> ((1 : Int32) &&& 31))) &&& (((m_X9_begins I np) 63 i8) >>> ((2 : Int32) &&& 31))) = 0 then (s ||| 0) else (s ||| ((1 : Int32) <<< ((nI i8) &&& 31)))
def g_X9_three_8 (I : Nat → Nat → Int32) (np : Nat) : Nat → Int32
  | 0 => 0
  | i8 + 1 => gb_X9_three_8 I np i8 (g_X9_three_8 I np i8)
def f_X9_three (I : Nat → Nat → Int32) (np : Nat) : Int32 := (g_X9_three_8 I np np)
def m_X9_three (I : Nat → Nat → Int32) (np : Nat) : Nat → Nat → Int32 := (m_X9_begins I np)
set_option maxHeartbeats 4000000 in
set_option maxRecDepth 100000 in
theorem c_X9_three (d : Nat) (hd : 1 ≤ d) (b : Bool) (I : Nat → Nat → Int32) (L : Nat → Nat → Int64) (np : Nat) (hnp : I 54 6 = nI np) (hn10 : np ≤ 10) : z_CT zm_X9_three d [.ref 54] SH (I, L, z_R b) 0 0 (z_ret (some (.int (f_X9_three I np))) ((m_X9_three I np), L, z_R b)) := by
  refine z_enter (by decide +kernel) (Nat.le_of_ble_eq_true rfl) ?_
  have hentry : PW zm_X9_three d 0 [(0, .ref 54)] [] SH (I, L, z_R b) 0 0 (z_ret (some (.int (f_X9_three I np))) ((m_X9_three I np), L, z_R b)) := by
    refine p_aload_n (z_dec zd_X9_three 0 rfl) rfl 0 rfl (n := 1) rfl ?_
    refine q_callV (As := []) (rest := []) (z_dec zd_X9_three 1 rfl) zk_X9_206 zv_X9_begins (c_X9_begins (d - 1) (by omega) b I L np hnp hn10) rfl ⟨_, _, rfl⟩ rfl rfl (Nat.le_of_ble_eq_true rfl) (by omega) (n := 4) rfl ?_
    show PW zm_X9_three d 4 [(0, .ref 54)] [] SH ((m_X9_begins I np), L, z_R b) 0 0 _
    refine p_iconst (z_dec zd_X9_three 2 rfl) (v := 0) (by decide) (n := 5) rfl ?_
    refine p_istore_n (z_dec zd_X9_three 3 rfl) rfl (lv2 := [(1, .int 0), (0, .ref 54)]) (by decide) rfl (n := 6) rfl ?_
    refine p_iconst (z_dec zd_X9_three 4 rfl) (v := 0) (by decide) (n := 7) rfl ?_
    refine p_istore_n (z_dec zd_X9_three 5 rfl) rfl (lv2 := [(2, .int 0), (1, .int 0), (0, .ref 54)]) (by decide) rfl (n := 8) rfl ?_
    have hL8 : ∀ i8, i8 ≤ np → PW zm_X9_three d 8 [(2, .int (nI i8)), (1, .int (g_X9_three_8 I np i8)), (0, .ref 54)] [] SH ((m_X9_begins I np), L, z_R b) 0 0 (z_ret (some (.int (f_X9_three I np))) ((m_X9_three I np), L, z_R b)) := by
      refine z_down np (fun i8 hi8 ih8 => ?_)
      refine p_iload_n (z_dec zd_X9_three 6 rfl) rfl 0 rfl (n := 9) rfl ?_
      refine p_aload_n (z_dec zd_X9_three 7 rfl) rfl 2 rfl (n := 10) rfl ?_
      refine q_getI (z_dec zd_X9_three 8 rfl) zf_X9_93 (by decide) rfl (v := (nI np)) ((z_begO _ _ _ _ (by decide) (by decide) (by decide) (Or.inr (by decide))).trans hnp) (n := 13) rfl ?_
      refine p_icmp_ge (z_dec zd_X9_three 9 rfl) (t := 59) (by decide) (n := 16) rfl (fun h13 => ?_) (fun h13 => ?_)
      · have hx8 : i8 = np := by have := z_ge (a := np) h13; omega
        rw [hx8]
        refine p_iload_n (z_dec zd_X9_three 39 rfl) rfl 1 rfl (n := 60) rfl ?_
        exact p_iret (z_dec zd_X9_three 40 rfl) rfl ⟨(by unfold f_X9_three; rfl), rfl, (z_3 (by unfold m_X9_three; rfl) rfl)⟩
      · have hx8 : i8 < np := by have := z_nge (a := np) h13; omega
        refine p_iload_n (z_dec zd_X9_three 10 rfl) rfl 1 rfl (n := 17) rfl ?_
        refine p_aload_n (z_dec zd_X9_three 11 rfl) rfl 2 rfl (n := 18) rfl ?_
        refine q_getR (z_dec zd_X9_three 12 rfl) zf_X9_34 (i := 63) rfl rfl (n := 21) rfl ?_
        refine p_iload_n (z_dec zd_X9_three 13 rfl) rfl 0 rfl (n := 22) rfl ?_
        refine q_iald (z_dec zd_X9_three 14 rfl) rfl (by decide) (i8) rfl (by omega) (v := ((m_X9_begins I np) 63 i8)) rfl (n := 23) rfl ?_
        refine p_aload_n (z_dec zd_X9_three 15 rfl) rfl 2 rfl (n := 24) rfl ?_
        refine q_getR (z_dec zd_X9_three 16 rfl) zf_X9_34 (i := 63) rfl rfl (n := 27) rfl ?_
        refine p_iload_n (z_dec zd_X9_three 17 rfl) rfl 0 rfl (n := 28) rfl ?_
        refine q_iald (z_dec zd_X9_three 18 rfl) rfl (by decide) (i8) rfl (by omega) (v := ((m_X9_begins I np) 63 i8)) rfl (n := 29) rfl ?_
        refine p_iconst (z_dec zd_X9_three 19 rfl) (v := 1) (by decide) (n := 30) rfl ?_
        refine p_ishr (z_dec zd_X9_three 20 rfl) (n := 31) rfl ?_
        refine p_iand (z_dec zd_X9_three 21 rfl) (n := 32) rfl ?_
        refine p_aload_n (z_dec zd_X9_three 22 rfl) rfl 2 rfl (n := 33) rfl ?_
        refine q_getR (z_dec zd_X9_three 23 rfl) zf_X9_34 (i := 63) rfl rfl (n := 36) rfl ?_
        refine p_iload_n (z_dec zd_X9_three 24 rfl) rfl 0 rfl (n := 37) rfl ?_
        refine q_iald (z_dec zd_X9_three 25 rfl) rfl (by decide) (i8) rfl (by omega) (v := ((m_X9_begins I np) 63 i8)) rfl (n := 38) rfl ?_
        refine p_iconst (z_dec zd_X9_three 26 rfl) (v := 2) (by decide) (n := 39) rfl ?_
        refine p_ishr (z_dec zd_X9_three 27 rfl) (n := 40) rfl ?_
        refine p_iand (z_dec zd_X9_three 28 rfl) (n := 41) rfl ?_
        refine p_if_eq (z_dec zd_X9_three 29 rfl) (t := 50) (by decide) (n := 44) rfl (fun h41 => ?_) (fun h41 => ?_)
        · refine p_iconst (z_dec zd_X9_three 34 rfl) (v := 0) (by decide) (n := 51) rfl ?_
          refine p_ior (z_dec zd_X9_three 35 rfl) (n := 52) rfl ?_
          refine p_istore_n (z_dec zd_X9_three 36 rfl) rfl (lv2 := [(1, .int ((g_X9_three_8 I np i8) ||| 0)), (2, .int (nI i8)), (0, .ref 54)]) (by decide) rfl (n := 53) rfl ?_
          refine p_iinc (z_dec zd_X9_three 37 rfl) 1 rfl (v := (nI (i8 + 1))) (nI_1 _) (lv2 := [(2, .int (nI (i8 + 1))), (1, .int ((g_X9_three_8 I np i8) ||| 0)), (0, .ref 54)]) (by decide) rfl (n := 56) rfl ?_
          refine p_goto (z_dec zd_X9_three 38 rfl) (t := 8) (by decide) ?_
          have eb : (g_X9_three_8 I np) (i8 + 1) = ((g_X9_three_8 I np i8) ||| 0) := by show gb_X9_three_8 I np i8 ((g_X9_three_8 I np) i8) = _; unfold gb_X9_three_8; rw [if_pos h41]
          refine z_lv (lv' := [(2, .int (nI (i8 + 1))), (1, .int (g_X9_three_8 I np (i8 + 1))), (0, .ref 54)]) (by rw [eb]) rfl rfl (ih8 (by omega))
        · refine p_iconst (z_dec zd_X9_three 30 rfl) (v := 1) (by decide) (n := 45) rfl ?_
          refine p_iload_n (z_dec zd_X9_three 31 rfl) rfl 0 rfl (n := 46) rfl ?_
          refine p_ishl (z_dec zd_X9_three 32 rfl) (n := 47) rfl ?_
          refine p_goto (z_dec zd_X9_three 33 rfl) (t := 51) (by decide) ?_
          refine p_ior (z_dec zd_X9_three 35 rfl) (n := 52) rfl ?_
          refine p_istore_n (z_dec zd_X9_three 36 rfl) rfl (lv2 := [(1, .int ((g_X9_three_8 I np i8) ||| ((1 : Int32) <<< ((nI i8) &&& 31)))), (2, .int (nI i8)), (0, .ref 54)]) (by decide) rfl (n := 53) rfl ?_
          refine p_iinc (z_dec zd_X9_three 37 rfl) 1 rfl (v := (nI (i8 + 1))) (nI_1 _) (lv2 := [(2, .int (nI (i8 + 1))), (1, .int ((g_X9_three_8 I np i8) ||| ((1 : Int32) <<< ((nI i8) &&& 31)))), (0, .ref 54)]) (by decide) rfl (n := 56) rfl ?_
          refine p_goto (z_dec zd_X9_three 38 rfl) (t := 8) (by decide) ?_
          have eb : (g_X9_three_8 I np) (i8 + 1) = ((g_X9_three_8 I np i8) ||| ((1 : Int32) <<< ((nI i8) &&& 31))) := by show gb_X9_three_8 I np i8 ((g_X9_three_8 I np) i8) = _; unfold gb_X9_three_8; rw [if_neg h41]
          refine z_lv (lv' := [(2, .int (nI (i8 + 1))), (1, .int (g_X9_three_8 I np (i8 + 1))), (0, .ref 54)]) (by rw [eb]) rfl rfl (ih8 (by omega))
    refine z_lv (lv' := [(2, .int (nI 0)), (1, .int (g_X9_three_8 I np 0)), (0, .ref 54)]) rfl rfl rfl (hL8 0 (Nat.zero_le _))
  exact hentry
def gb_X9_upsetBy_5 (I : Nat → Nat → Int32) (p : Nat) (behind : Int32) (i5 : Nat) (s : Int32) : Int32 := if (f_X9_isIn behind (nI i5)) = 0 then (s + 0) else (s + (I 67 ((10 * i5) + p)))
def g_X9_upsetBy_5 (I : Nat → Nat → Int32) (p : Nat) (behind : Int32) : Nat → Int32
  | 0 => 0
  | i5 + 1 => gb_X9_upsetBy_5 I p behind i5 (g_X9_upsetBy_5 I p behind i5)
def f_X9_upsetBy (I : Nat → Nat → Int32) (np : Nat) (p : Nat) (behind : Int32) : Int32 := (g_X9_upsetBy_5 I p behind np)
set_option maxHeartbeats 4000000 in
set_option maxRecDepth 100000 in
theorem c_X9_upsetBy (d : Nat) (hd : 1 ≤ d) (b : Bool) (I : Nat → Nat → Int32) (L : Nat → Nat → Int64) (np : Nat) (hnp : I 54 6 = nI np) (hn10 : np ≤ 10) (p : Nat) (hp : p < 10) (behind : Int32) : z_CT zm_X9_upsetBy d [.ref 54, .int (nI p), .int behind] SH (I, L, z_R b) 0 0 (z_ret (some (.int (f_X9_upsetBy I np p behind))) (I, L, z_R b)) := by
  refine z_enter (by decide +kernel) (Nat.le_of_ble_eq_true rfl) ?_
  have hentry : PW zm_X9_upsetBy d 0 [(0, .ref 54), (1, .int (nI p)), (2, .int behind)] [] SH (I, L, z_R b) 0 0 (z_ret (some (.int (f_X9_upsetBy I np p behind))) (I, L, z_R b)) := by
    refine p_iconst (z_dec zd_X9_upsetBy 0 rfl) (v := 0) (by decide) (n := 1) rfl ?_
    refine p_istore_n (z_dec zd_X9_upsetBy 1 rfl) rfl (lv2 := [(3, .int 0), (0, .ref 54), (1, .int (nI p)), (2, .int behind)]) (by decide) rfl (n := 2) rfl ?_
    refine p_iconst (z_dec zd_X9_upsetBy 2 rfl) (v := 0) (by decide) (n := 3) rfl ?_
    refine p_istore (z_dec zd_X9_upsetBy 3 rfl) (lv2 := [(4, .int 0), (3, .int 0), (0, .ref 54), (1, .int (nI p)), (2, .int behind)]) (by decide) rfl (n := 5) rfl ?_
    have hL5 : ∀ i5, i5 ≤ np → PW zm_X9_upsetBy d 5 [(4, .int (nI i5)), (3, .int (g_X9_upsetBy_5 I p behind i5)), (0, .ref 54), (1, .int (nI p)), (2, .int behind)] [] SH (I, L, z_R b) 0 0 (z_ret (some (.int (f_X9_upsetBy I np p behind))) (I, L, z_R b)) := by
      refine z_down np (fun i5 hi5 ih5 => ?_)
      refine p_iload (z_dec zd_X9_upsetBy 4 rfl) 0 rfl (n := 7) rfl ?_
      refine p_aload_n (z_dec zd_X9_upsetBy 5 rfl) rfl 2 rfl (n := 8) rfl ?_
      refine q_getI (z_dec zd_X9_upsetBy 6 rfl) zf_X9_93 (by decide) rfl (v := (nI np)) hnp (n := 11) rfl ?_
      refine p_icmp_ge (z_dec zd_X9_upsetBy 7 rfl) (t := 48) (by decide) (n := 14) rfl (fun h11 => ?_) (fun h11 => ?_)
      · have hx5 : i5 = np := by have := z_ge (a := np) h11; omega
        rw [hx5]
        refine p_iload_n (z_dec zd_X9_upsetBy 27 rfl) rfl 1 rfl (n := 49) rfl ?_
        exact p_iret (z_dec zd_X9_upsetBy 28 rfl) rfl ⟨(by unfold f_X9_upsetBy; rfl), rfl, rfl⟩
      · have hx5 : i5 < np := by have := z_nge (a := np) h11; omega
        refine p_iload_n (z_dec zd_X9_upsetBy 8 rfl) rfl 1 rfl (n := 15) rfl ?_
        refine p_iload_n (z_dec zd_X9_upsetBy 9 rfl) rfl 4 rfl (n := 16) rfl ?_
        refine p_iload (z_dec zd_X9_upsetBy 10 rfl) 0 rfl (n := 18) rfl ?_
        refine q_callS (As := [.int behind, .int (nI i5)]) (rest := [.int (g_X9_upsetBy_5 I p behind i5)]) (z_dec zd_X9_upsetBy 11 rfl) zk_X9_216 zs_X9_isIn (c_X9_isIn (d - 1) (by omega) b I L behind (nI i5)) rfl rfl (Nat.le_of_ble_eq_true rfl) (by omega) (n := 21) rfl ?_
        show PW zm_X9_upsetBy d 21 [(4, .int (nI i5)), (3, .int (g_X9_upsetBy_5 I p behind i5)), (0, .ref 54), (1, .int (nI p)), (2, .int behind)] [.int (f_X9_isIn behind (nI i5)), .int (g_X9_upsetBy_5 I p behind i5)] SH (I, L, z_R b) 0 0 _
        refine p_if_eq (z_dec zd_X9_upsetBy 12 rfl) (t := 39) (by decide) (n := 24) rfl (fun h21 => ?_) (fun h21 => ?_)
        · refine p_iconst (z_dec zd_X9_upsetBy 22 rfl) (v := 0) (by decide) (n := 40) rfl ?_
          refine p_iadd (z_dec zd_X9_upsetBy 23 rfl) (n := 41) rfl ?_
          refine p_istore_n (z_dec zd_X9_upsetBy 24 rfl) rfl (lv2 := [(3, .int ((g_X9_upsetBy_5 I p behind i5) + 0)), (4, .int (nI i5)), (0, .ref 54), (1, .int (nI p)), (2, .int behind)]) (by decide) rfl (n := 42) rfl ?_
          refine p_iinc (z_dec zd_X9_upsetBy 25 rfl) 1 rfl (v := (nI (i5 + 1))) (nI_1 _) (lv2 := [(4, .int (nI (i5 + 1))), (3, .int ((g_X9_upsetBy_5 I p behind i5) + 0)), (0, .ref 54), (1, .int (nI p)), (2, .int behind)]) (by decide) rfl (n := 45) rfl ?_
          refine p_goto (z_dec zd_X9_upsetBy 26 rfl) (t := 5) (by decide) ?_
          have eb : (g_X9_upsetBy_5 I p behind) (i5 + 1) = ((g_X9_upsetBy_5 I p behind i5) + 0) := by show gb_X9_upsetBy_5 I p behind i5 ((g_X9_upsetBy_5 I p behind) i5) = _; unfold gb_X9_upsetBy_5; rw [if_pos h21]
          refine z_lv (lv' := [(4, .int (nI (i5 + 1))), (3, .int (g_X9_upsetBy_5 I p behind (i5 + 1))), (0, .ref 54), (1, .int (nI p)), (2, .int behind)]) (by rw [eb]) rfl rfl (ih5 (by omega))
        · refine p_aload_n (z_dec zd_X9_upsetBy 13 rfl) rfl 2 rfl (n := 25) rfl ?_
          refine q_getR (z_dec zd_X9_upsetBy 14 rfl) zf_X9_46 (i := 67) rfl rfl (n := 28) rfl ?_
          refine p_bipush (z_dec zd_X9_upsetBy 15 rfl) (v := 10) (by decide) (n := 30) rfl ?_
          refine p_iload (z_dec zd_X9_upsetBy 16 rfl) 0 rfl (n := 32) rfl ?_
          refine p_imul (z_dec zd_X9_upsetBy 17 rfl) (n := 33) rfl ?_
          refine p_iload_n (z_dec zd_X9_upsetBy 18 rfl) rfl 3 rfl (n := 34) rfl ?_
          refine p_iadd (z_dec zd_X9_upsetBy 19 rfl) (n := 35) rfl ?_
          refine q_iald (z_dec zd_X9_upsetBy 20 rfl) rfl (by decide) ((10 * i5) + p) (z_addE (z_mulE rfl rfl) rfl) (by omega) (v := (I 67 ((10 * i5) + p))) rfl (n := 36) rfl ?_
          refine p_goto (z_dec zd_X9_upsetBy 21 rfl) (t := 40) (by decide) ?_
          refine p_iadd (z_dec zd_X9_upsetBy 23 rfl) (n := 41) rfl ?_
          refine p_istore_n (z_dec zd_X9_upsetBy 24 rfl) rfl (lv2 := [(3, .int ((g_X9_upsetBy_5 I p behind i5) + (I 67 ((10 * i5) + p)))), (4, .int (nI i5)), (0, .ref 54), (1, .int (nI p)), (2, .int behind)]) (by decide) rfl (n := 42) rfl ?_
          refine p_iinc (z_dec zd_X9_upsetBy 25 rfl) 1 rfl (v := (nI (i5 + 1))) (nI_1 _) (lv2 := [(4, .int (nI (i5 + 1))), (3, .int ((g_X9_upsetBy_5 I p behind i5) + (I 67 ((10 * i5) + p)))), (0, .ref 54), (1, .int (nI p)), (2, .int behind)]) (by decide) rfl (n := 45) rfl ?_
          refine p_goto (z_dec zd_X9_upsetBy 26 rfl) (t := 5) (by decide) ?_
          have eb : (g_X9_upsetBy_5 I p behind) (i5 + 1) = ((g_X9_upsetBy_5 I p behind i5) + (I 67 ((10 * i5) + p))) := by show gb_X9_upsetBy_5 I p behind i5 ((g_X9_upsetBy_5 I p behind) i5) = _; unfold gb_X9_upsetBy_5; rw [if_neg h21]
          refine z_lv (lv' := [(4, .int (nI (i5 + 1))), (3, .int (g_X9_upsetBy_5 I p behind (i5 + 1))), (0, .ref 54), (1, .int (nI p)), (2, .int behind)]) (by rw [eb]) rfl rfl (ih5 (by omega))
    refine z_lv (lv' := [(4, .int (nI 0)), (3, .int (g_X9_upsetBy_5 I p behind 0)), (0, .ref 54), (1, .int (nI p)), (2, .int behind)]) rfl rfl rfl (hL5 0 (Nat.zero_le _))
  exact hentry
def gb_X9_image_15 (I : Nat → Nat → Int32) (np : Nat) (i15 : Nat) (s : (Nat → Nat → Int32)) : (Nat → Nat → Int32) := (z_up s 71 i15 (s 55 i15))
def g_X9_image_15 (I : Nat → Nat → Int32) (np : Nat) : Nat → (Nat → Nat → Int32)
  | 0 => (z_up (z_up I 54 28 1) 54 29 (nI np))
  | i15 + 1 => gb_X9_image_15 I np i15 (g_X9_image_15 I np i15)
def gb_X9_image_41 (I : Nat → Nat → Int32) (np : Nat) (i41 : Nat) (s : (Nat → Nat → Int32)) : (Nat → Nat → Int32) := (z_up s 72 i41 (s 70 i41))
def g_X9_image_41 (I : Nat → Nat → Int32) (np : Nat) : Nat → (Nat → Nat → Int32)
  | 0 => (g_X9_image_15 I np 42)
  | i41 + 1 => gb_X9_image_41 I np i41 (g_X9_image_41 I np i41)
def f_X9_image (I : Nat → Nat → Int32) (np : Nat) : Int32 := ((g_X9_image_41 I np 5) 70 0)
def m_X9_image (I : Nat → Nat → Int32) (np : Nat) : Nat → Nat → Int32 := (g_X9_image_41 I np 5)
set_option maxHeartbeats 4000000 in
set_option maxRecDepth 100000 in
theorem c_X9_image (d : Nat) (hd : 0 ≤ d) (b : Bool) (I : Nat → Nat → Int32) (L : Nat → Nat → Int64) (np : Nat) (hnp : I 54 6 = nI np) (hn10 : np ≤ 10) : z_CT zm_X9_image d [.ref 54] SH (I, L, z_R b) 0 0 (z_ret (some (.int (f_X9_image I np))) ((m_X9_image I np), L, z_R b)) := by
  refine z_enter (by decide +kernel) (Nat.le_of_ble_eq_true rfl) ?_
  have hentry : PW zm_X9_image d 0 [(0, .ref 54)] [] SH (I, L, z_R b) 0 0 (z_ret (some (.int (f_X9_image I np))) ((m_X9_image I np), L, z_R b)) := by
    refine p_aload_n (z_dec zd_X9_image 0 rfl) rfl 0 rfl (n := 1) rfl ?_
    refine p_iconst (z_dec zd_X9_image 1 rfl) (v := 1) (by decide) (n := 2) rfl ?_
    refine q_putZ (z_dec zd_X9_image 2 rfl) zp_X9_285 (fun q => by cases q) (Or.inr rfl) rfl (n := 5) rfl ?_
    refine p_aload_n (z_dec zd_X9_image 3 rfl) rfl 0 rfl (n := 6) rfl ?_
    refine p_aload_n (z_dec zd_X9_image 4 rfl) rfl 0 rfl (n := 7) rfl ?_
    refine q_getI (z_dec zd_X9_image 5 rfl) zf_X9_93 (by decide) rfl (v := (nI np)) hnp (n := 10) rfl ?_
    refine q_putI (z_dec zd_X9_image 6 rfl) zp_X9_289 (fun q => by cases q) rfl (n := 13) rfl ?_
    refine p_iconst (z_dec zd_X9_image 7 rfl) (v := 0) (by decide) (n := 14) rfl ?_
    refine p_istore_n (z_dec zd_X9_image 8 rfl) rfl (lv2 := [(1, .int 0), (0, .ref 54)]) (by decide) rfl (n := 15) rfl ?_
    have hL15 : ∀ i15, i15 ≤ 42 → PW zm_X9_image d 15 [(1, .int (nI i15)), (0, .ref 54)] [] SH ((g_X9_image_15 I np i15), L, z_R b) 0 0 (z_ret (some (.int (f_X9_image I np))) ((m_X9_image I np), L, z_R b)) := by
      refine z_down 42 (fun i15 hi15 ih15 => ?_)
      refine p_iload_n (z_dec zd_X9_image 9 rfl) rfl 0 rfl (n := 16) rfl ?_
      refine p_bipush (z_dec zd_X9_image 10 rfl) (v := 41) (by decide) (n := 18) rfl ?_
      refine p_icmp_gt (z_dec zd_X9_image 11 rfl) (t := 39) (by decide) (n := 21) rfl (fun h18 => ?_) (fun h18 => ?_)
      · have hx15 : i15 = 42 := by have := z_lt (a := 41) h18; omega
        rw [hx15]
        refine p_iconst (z_dec zd_X9_image 22 rfl) (v := 0) (by decide) (n := 40) rfl ?_
        refine p_istore_n (z_dec zd_X9_image 23 rfl) rfl (lv2 := [(1, .int 0), (0, .ref 54)]) (by decide) rfl (n := 41) rfl ?_
        have hL41 : ∀ i41, i41 ≤ 5 → PW zm_X9_image d 41 [(1, .int (nI i41)), (0, .ref 54)] [] SH ((g_X9_image_41 I np i41), L, z_R b) 0 0 (z_ret (some (.int (f_X9_image I np))) ((m_X9_image I np), L, z_R b)) := by
          refine z_down 5 (fun i41 hi41 ih41 => ?_)
          refine p_iload_n (z_dec zd_X9_image 24 rfl) rfl 0 rfl (n := 42) rfl ?_
          refine p_iconst (z_dec zd_X9_image 25 rfl) (v := 5) (by decide) (n := 43) rfl ?_
          refine p_icmp_ge (z_dec zd_X9_image 26 rfl) (t := 64) (by decide) (n := 46) rfl (fun h43 => ?_) (fun h43 => ?_)
          · have hx41 : i41 = 5 := by have := z_ge (a := 5) h43; omega
            rw [hx41]
            refine p_aload_n (z_dec zd_X9_image 37 rfl) rfl 1 rfl (n := 65) rfl ?_
            refine q_getR (z_dec zd_X9_image 38 rfl) zf_X9_55 (i := 70) rfl rfl (n := 68) rfl ?_
            refine p_iconst (z_dec zd_X9_image 39 rfl) (v := 0) (by decide) (n := 69) rfl ?_
            refine q_iald (z_dec zd_X9_image 40 rfl) rfl (by decide) (0) rfl (by decide) (v := ((g_X9_image_41 I np 5) 70 0)) rfl (n := 70) rfl ?_
            exact p_iret (z_dec zd_X9_image 41 rfl) rfl ⟨(by unfold f_X9_image; rfl), rfl, (z_3 (by unfold m_X9_image; rfl) rfl)⟩
          · have hx41 : i41 < 5 := by have := z_nge (a := 5) h43; omega
            refine p_aload_n (z_dec zd_X9_image 27 rfl) rfl 1 rfl (n := 47) rfl ?_
            refine q_getR (z_dec zd_X9_image 28 rfl) zf_X9_61 (i := 72) rfl rfl (n := 50) rfl ?_
            refine p_iload_n (z_dec zd_X9_image 29 rfl) rfl 0 rfl (n := 51) rfl ?_
            refine p_aload_n (z_dec zd_X9_image 30 rfl) rfl 1 rfl (n := 52) rfl ?_
            refine q_getR (z_dec zd_X9_image 31 rfl) zf_X9_55 (i := 70) rfl rfl (n := 55) rfl ?_
            refine p_iload_n (z_dec zd_X9_image 32 rfl) rfl 0 rfl (n := 56) rfl ?_
            refine q_iald (z_dec zd_X9_image 33 rfl) rfl (by decide) (i41) rfl (by omega) (v := ((g_X9_image_41 I np i41) 70 i41)) rfl (n := 57) rfl ?_
            refine q_iast (z_dec zd_X9_image 34 rfl) rfl (by decide) (i41) rfl (by omega) (n := 58) rfl ?_
            refine p_iinc (z_dec zd_X9_image 35 rfl) 0 rfl (v := (nI (i41 + 1))) (nI_1 _) (lv2 := [(1, .int (nI (i41 + 1))), (0, .ref 54)]) (by decide) rfl (n := 61) rfl ?_
            refine p_goto (z_dec zd_X9_image 36 rfl) (t := 41) (by decide) ?_
            have eb : (g_X9_image_41 I np) (i41 + 1) = (z_up (g_X9_image_41 I np i41) 72 i41 ((g_X9_image_41 I np i41) 70 i41)) := by show gb_X9_image_41 I np i41 ((g_X9_image_41 I np) i41) = _; unfold gb_X9_image_41; rfl
            refine z_lv (lv' := [(1, .int (nI (i41 + 1))), (0, .ref 54)]) rfl rfl (by rw [eb]) (ih41 (by omega))
        refine z_lv (lv' := [(1, .int (nI 0)), (0, .ref 54)]) rfl rfl rfl (hL41 0 (Nat.zero_le _))
      · have hx15 : i15 < 42 := by have := z_nlt (a := 41) h18; omega
        refine p_aload_n (z_dec zd_X9_image 12 rfl) rfl 1 rfl (n := 22) rfl ?_
        refine q_getR (z_dec zd_X9_image 13 rfl) zf_X9_58 (i := 71) rfl rfl (n := 25) rfl ?_
        refine p_iload_n (z_dec zd_X9_image 14 rfl) rfl 0 rfl (n := 26) rfl ?_
        refine p_aload_n (z_dec zd_X9_image 15 rfl) rfl 1 rfl (n := 27) rfl ?_
        refine q_getR (z_dec zd_X9_image 16 rfl) zf_X9_9 (i := 55) rfl rfl (n := 30) rfl ?_
        refine p_iload_n (z_dec zd_X9_image 17 rfl) rfl 0 rfl (n := 31) rfl ?_
        refine q_iald (z_dec zd_X9_image 18 rfl) rfl (by decide) (i15) rfl (by omega) (v := ((g_X9_image_15 I np i15) 55 i15)) rfl (n := 32) rfl ?_
        refine q_iast (z_dec zd_X9_image 19 rfl) rfl (by decide) (i15) rfl (by omega) (n := 33) rfl ?_
        refine p_iinc (z_dec zd_X9_image 20 rfl) 0 rfl (v := (nI (i15 + 1))) (nI_1 _) (lv2 := [(1, .int (nI (i15 + 1))), (0, .ref 54)]) (by decide) rfl (n := 36) rfl ?_
        refine p_goto (z_dec zd_X9_image 21 rfl) (t := 15) (by decide) ?_
        have eb : (g_X9_image_15 I np) (i15 + 1) = (z_up (g_X9_image_15 I np i15) 71 i15 ((g_X9_image_15 I np i15) 55 i15)) := by show gb_X9_image_15 I np i15 ((g_X9_image_15 I np) i15) = _; unfold gb_X9_image_15; rfl
        refine z_lv (lv' := [(1, .int (nI (i15 + 1))), (0, .ref 54)]) rfl rfl (by rw [eb]) (ih15 (by omega))
    refine z_lv (lv' := [(1, .int (nI 0)), (0, .ref 54)]) rfl rfl rfl (hL15 0 (Nat.zero_le _))
  exact hentry
def gb_X9_endsDay_4 (I : Nat → Nat → Int32) (i4 : Nat) (s : Int32 × (Nat → Nat → Int32)) : Int32 × (Nat → Nat → Int32) := if ((s.2 64 i4) / 2) = 1 then if 0 ≤ ((s.2 62 i4) + 3) then if ((s.2 62 i4) + 3) ≤ 99 then ((s.1 + ((s.2 64 i4) / 2)), (z_up (z_up (z_up (z_up s.2 63 i4 (((2 * (s.2 63 i4)) + ((s.2 64 i4) / 2)) - ((2 * (s.2 63 i4)) + ((s.2 64 i4) / 2)) / 256 * 256)) 62 i4 ((s.2 62 i4) + 3)) 62 i4 ((s.2 62 i4) + 3)) 64 i4 0)) else ((s.1 + ((s.2 64 i4) / 2)), (z_up (z_up (z_up (z_up s.2 63 i4 (((2 * (s.2 63 i4)) + ((s.2 64 i4) / 2)) - ((2 * (s.2 63 i4)) + ((s.2 64 i4) / 2)) / 256 * 256)) 62 i4 ((s.2 62 i4) + 3)) 62 i4 99) 64 i4 0)) else ((s.1 + ((s.2 64 i4) / 2)), (z_up (z_up (z_up (z_up s.2 63 i4 (((2 * (s.2 63 i4)) + ((s.2 64 i4) / 2)) - ((2 * (s.2 63 i4)) + ((s.2 64 i4) / 2)) / 256 * 256)) 62 i4 ((s.2 62 i4) + 3)) 62 i4 0) 64 i4 0)) else if 0 ≤ ((s.2 62 i4) + (-1)) then if ((s.2 62 i4) + (-1)) ≤ 99 then ((s.1 + ((s.2 64 i4) / 2)), (z_up (z_up (z_up (z_up s.2 63 i4 (((2 * (s.2 63 i4)) + ((s.2 64 i4) / 2)) - ((2 * (s.2 63 i4)) + ((s.2 64 i4) / 2)) / 256 * 256)) 62 i4 ((s.2 62 i4) + (-1))) 62 i4 ((s.2 62 i4) + (-1))) 64 i4 0)) else ((s.1 + ((s.2 64 i4) / 2)), (z_up (z_up (z_up (z_up s.2 63 i4 (((2 * (s.2 63 i4)) + ((s.2 64 i4) / 2)) - ((2 * (s.2 63 i4)) + ((s.2 64 i4) / 2)) / 256 * 256)) 62 i4 ((s.2 62 i4) + (-1))) 62 i4 99) 64 i4 0)) else ((s.1 + ((s.2 64 i4) / 2)), (z_up (z_up (z_up (z_up s.2 63 i4 (((2 * (s.2 63 i4)) + ((s.2 64 i4) / 2)) - ((2 * (s.2 63 i4)) + ((s.2 64 i4) / 2)) / 256 * 256)) 62 i4 ((s.2 62 i4) + (-1))) 62 i4 0) 64 i4 0))
def g_X9_endsDay_4 (I : Nat → Nat → Int32) : Nat → Int32 × (Nat → Nat → Int32)
  | 0 => (0, I)
  | i4 + 1 => gb_X9_endsDay_4 I i4 (g_X9_endsDay_4 I i4)
theorem gi_X9_endsDay_4_54_6 (I : Nat → Nat → Int32) : ∀ i4, (g_X9_endsDay_4 I i4).2 54 6 = I 54 6
  | 0 => rfl
  | i4 + 1 => by
    have ih := gi_X9_endsDay_4_54_6 I i4
    show (gb_X9_endsDay_4 I i4 (g_X9_endsDay_4 I i4)).2 54 6 = _
    unfold gb_X9_endsDay_4
    (repeat' split) <;> simp [z_up, ih]
theorem gi_X9_endsDay_4_54_20 (I : Nat → Nat → Int32) : ∀ i4, (g_X9_endsDay_4 I i4).2 54 20 = I 54 20
  | 0 => rfl
  | i4 + 1 => by
    have ih := gi_X9_endsDay_4_54_20 I i4
    show (gb_X9_endsDay_4 I i4 (g_X9_endsDay_4 I i4)).2 54 20 = _
    unfold gb_X9_endsDay_4
    (repeat' split) <;> simp [z_up, ih]
def f_X9_endsDay (I : Nat → Nat → Int32) (np : Nat) : Int32 := if (I 54 20) = 99 then (g_X9_endsDay_4 I np).1 else (g_X9_endsDay_4 I np).1
def m_X9_endsDay (I : Nat → Nat → Int32) (np : Nat) : Nat → Nat → Int32 := if (I 54 20) = 99 then (z_up (g_X9_endsDay_4 I np).2 54 20 99) else (z_up (g_X9_endsDay_4 I np).2 54 20 ((I 54 20) + 1))
set_option maxHeartbeats 4000000 in
set_option maxRecDepth 100000 in
theorem c_X9_endsDay (d : Nat) (hd : 0 ≤ d) (b : Bool) (I : Nat → Nat → Int32) (L : Nat → Nat → Int64) (np : Nat) (hnp : I 54 6 = nI np) (hn10 : np ≤ 10) : z_CT zm_X9_endsDay d [.ref 54] SH (I, L, z_R b) 0 0 (z_ret (some (.int (f_X9_endsDay I np))) ((m_X9_endsDay I np), L, z_R b)) := by
  refine z_enter (by decide +kernel) (Nat.le_of_ble_eq_true rfl) ?_
  have hentry : PW zm_X9_endsDay d 0 [(0, .ref 54)] [] SH (I, L, z_R b) 0 0 (z_ret (some (.int (f_X9_endsDay I np))) ((m_X9_endsDay I np), L, z_R b)) := by
    refine p_iconst (z_dec zd_X9_endsDay 0 rfl) (v := 0) (by decide) (n := 1) rfl ?_
    refine p_istore_n (z_dec zd_X9_endsDay 1 rfl) rfl (lv2 := [(1, .int 0), (0, .ref 54)]) (by decide) rfl (n := 2) rfl ?_
    refine p_iconst (z_dec zd_X9_endsDay 2 rfl) (v := 0) (by decide) (n := 3) rfl ?_
    refine p_istore_n (z_dec zd_X9_endsDay 3 rfl) rfl (lv2 := [(2, .int 0), (1, .int 0), (0, .ref 54)]) (by decide) rfl (n := 4) rfl ?_
    have hL4 : ∀ i4, i4 ≤ np → PW zm_X9_endsDay d 4 [(2, .int (nI i4)), (1, .int ((g_X9_endsDay_4 I i4).1)), (0, .ref 54)] [] SH ((g_X9_endsDay_4 I i4).2, L, z_R b) 0 0 (z_ret (some (.int (f_X9_endsDay I np))) ((m_X9_endsDay I np), L, z_R b)) := by
      refine z_down np (fun i4 hi4 ih4 => ?_)
      refine p_iload_n (z_dec zd_X9_endsDay 4 rfl) rfl 0 rfl (n := 5) rfl ?_
      refine p_aload_n (z_dec zd_X9_endsDay 5 rfl) rfl 2 rfl (n := 6) rfl ?_
      refine q_getI (z_dec zd_X9_endsDay 6 rfl) zf_X9_93 (by decide) rfl (v := (nI np)) ((gi_X9_endsDay_4_54_6 I i4).trans hnp) (n := 9) rfl ?_
      refine p_icmp_ge (z_dec zd_X9_endsDay 7 rfl) (t := 118) (by decide) (n := 12) rfl (fun h9 => ?_) (fun h9 => ?_)
      · have hx4 : i4 = np := by have := z_ge (a := np) h9; omega
        rw [hx4]
        refine p_aload_n (z_dec zd_X9_endsDay 76 rfl) rfl 2 rfl (n := 119) rfl ?_
        refine p_aload_n (z_dec zd_X9_endsDay 77 rfl) rfl 2 rfl (n := 120) rfl ?_
        refine q_getI (z_dec zd_X9_endsDay 78 rfl) zf_X9_194 (by decide) rfl (v := (I 54 20)) (gi_X9_endsDay_4_54_20 I np) (n := 123) rfl ?_
        refine p_bipush (z_dec zd_X9_endsDay 79 rfl) (v := 99) (by decide) (n := 125) rfl ?_
        refine p_icmp_ne (z_dec zd_X9_endsDay 80 rfl) (t := 133) (by decide) (n := 128) rfl (fun h125 => ?_) (fun h125 => ?_)
        · refine p_aload_n (z_dec zd_X9_endsDay 83 rfl) rfl 2 rfl (n := 134) rfl ?_
          refine q_getI (z_dec zd_X9_endsDay 84 rfl) zf_X9_194 (by decide) rfl (v := (I 54 20)) (gi_X9_endsDay_4_54_20 I np) (n := 137) rfl ?_
          refine p_iconst (z_dec zd_X9_endsDay 85 rfl) (v := 1) (by decide) (n := 138) rfl ?_
          refine p_iadd (z_dec zd_X9_endsDay 86 rfl) (n := 139) rfl ?_
          refine q_putI (z_dec zd_X9_endsDay 87 rfl) zp_X9_194 (fun q => by cases q) rfl (n := 142) rfl ?_
          refine p_iload_n (z_dec zd_X9_endsDay 88 rfl) rfl 1 rfl (n := 143) rfl ?_
          exact p_iret (z_dec zd_X9_endsDay 89 rfl) rfl ⟨(by unfold f_X9_endsDay; rw [if_neg h125]), rfl, (z_3 (by unfold m_X9_endsDay; rw [if_neg h125]) rfl)⟩
        · refine p_bipush (z_dec zd_X9_endsDay 81 rfl) (v := 99) (by decide) (n := 130) rfl ?_
          refine p_goto (z_dec zd_X9_endsDay 82 rfl) (t := 139) (by decide) ?_
          refine q_putI (z_dec zd_X9_endsDay 87 rfl) zp_X9_194 (fun q => by cases q) rfl (n := 142) rfl ?_
          refine p_iload_n (z_dec zd_X9_endsDay 88 rfl) rfl 1 rfl (n := 143) rfl ?_
          exact p_iret (z_dec zd_X9_endsDay 89 rfl) rfl ⟨(by unfold f_X9_endsDay; rw [if_pos h125]), rfl, (z_3 (by unfold m_X9_endsDay; rw [if_pos h125]) rfl)⟩
      · have hx4 : i4 < np := by have := z_nge (a := np) h9; omega
        refine p_aload_n (z_dec zd_X9_endsDay 8 rfl) rfl 2 rfl (n := 13) rfl ?_
        refine q_getR (z_dec zd_X9_endsDay 9 rfl) zf_X9_37 (i := 64) rfl rfl (n := 16) rfl ?_
        refine p_iload_n (z_dec zd_X9_endsDay 10 rfl) rfl 0 rfl (n := 17) rfl ?_
        refine q_iald (z_dec zd_X9_endsDay 11 rfl) rfl (by decide) (i4) rfl (by omega) (v := ((g_X9_endsDay_4 I i4).2 64 i4)) rfl (n := 18) rfl ?_
        refine p_iconst (z_dec zd_X9_endsDay 12 rfl) (v := 2) (by decide) (n := 19) rfl ?_
        refine p_idiv (z_dec zd_X9_endsDay 13 rfl) (by decide) (n := 20) rfl ?_
        refine p_istore_n (z_dec zd_X9_endsDay 14 rfl) rfl (lv2 := [(3, .int (((g_X9_endsDay_4 I i4).2 64 i4) / 2)), (2, .int (nI i4)), (1, .int ((g_X9_endsDay_4 I i4).1)), (0, .ref 54)]) (by decide) rfl (n := 21) rfl ?_
        refine p_aload_n (z_dec zd_X9_endsDay 15 rfl) rfl 3 rfl (n := 22) rfl ?_
        refine q_getR (z_dec zd_X9_endsDay 16 rfl) zf_X9_34 (i := 63) rfl rfl (n := 25) rfl ?_
        refine p_iload_n (z_dec zd_X9_endsDay 17 rfl) rfl 1 rfl (n := 26) rfl ?_
        refine p_iconst (z_dec zd_X9_endsDay 18 rfl) (v := 2) (by decide) (n := 27) rfl ?_
        refine p_aload_n (z_dec zd_X9_endsDay 19 rfl) rfl 3 rfl (n := 28) rfl ?_
        refine q_getR (z_dec zd_X9_endsDay 20 rfl) zf_X9_34 (i := 63) rfl rfl (n := 31) rfl ?_
        refine p_iload_n (z_dec zd_X9_endsDay 21 rfl) rfl 1 rfl (n := 32) rfl ?_
        refine q_iald (z_dec zd_X9_endsDay 22 rfl) rfl (by decide) (i4) rfl (by omega) (v := ((g_X9_endsDay_4 I i4).2 63 i4)) rfl (n := 33) rfl ?_
        refine p_imul (z_dec zd_X9_endsDay 23 rfl) (n := 34) rfl ?_
        refine p_iload_n (z_dec zd_X9_endsDay 24 rfl) rfl 0 rfl (n := 35) rfl ?_
        refine p_iadd (z_dec zd_X9_endsDay 25 rfl) (n := 36) rfl ?_
        refine p_sipush (z_dec zd_X9_endsDay 26 rfl) (v := 256) (by decide) (n := 39) rfl ?_
        refine p_irem (z_dec zd_X9_endsDay 27 rfl) (by decide) (n := 40) rfl ?_
        refine q_iast (z_dec zd_X9_endsDay 28 rfl) rfl (by decide) (i4) rfl (by omega) (n := 41) rfl ?_
        refine p_aload_n (z_dec zd_X9_endsDay 29 rfl) rfl 3 rfl (n := 42) rfl ?_
        refine q_getR (z_dec zd_X9_endsDay 30 rfl) zf_X9_31 (i := 62) rfl rfl (n := 45) rfl ?_
        refine p_iload_n (z_dec zd_X9_endsDay 31 rfl) rfl 1 rfl (n := 46) rfl ?_
        refine p_dup2 (z_dec zd_X9_endsDay 32 rfl) rfl rfl (n := 47) rfl ?_
        refine q_iald (z_dec zd_X9_endsDay 33 rfl) rfl (by decide) (i4) rfl (by omega) (v := ((g_X9_endsDay_4 I i4).2 62 i4)) rfl (n := 48) rfl ?_
        refine p_iload_n (z_dec zd_X9_endsDay 34 rfl) rfl 0 rfl (n := 49) rfl ?_
        refine p_iconst (z_dec zd_X9_endsDay 35 rfl) (v := 1) (by decide) (n := 50) rfl ?_
        refine p_icmp_ne (z_dec zd_X9_endsDay 36 rfl) (t := 57) (by decide) (n := 53) rfl (fun h50 => ?_) (fun h50 => ?_)
        · refine p_iconst (z_dec zd_X9_endsDay 39 rfl) (v := (-1)) (by decide) (n := 58) rfl ?_
          refine p_iadd (z_dec zd_X9_endsDay 40 rfl) (n := 59) rfl ?_
          refine q_iast (z_dec zd_X9_endsDay 41 rfl) rfl (by decide) (i4) rfl (by omega) (n := 60) rfl ?_
          refine p_aload_n (z_dec zd_X9_endsDay 42 rfl) rfl 3 rfl (n := 61) rfl ?_
          refine q_getR (z_dec zd_X9_endsDay 43 rfl) zf_X9_31 (i := 62) rfl rfl (n := 64) rfl ?_
          refine p_iload_n (z_dec zd_X9_endsDay 44 rfl) rfl 1 rfl (n := 65) rfl ?_
          refine p_aload_n (z_dec zd_X9_endsDay 45 rfl) rfl 3 rfl (n := 66) rfl ?_
          refine q_getR (z_dec zd_X9_endsDay 46 rfl) zf_X9_31 (i := 62) rfl rfl (n := 69) rfl ?_
          refine p_iload_n (z_dec zd_X9_endsDay 47 rfl) rfl 1 rfl (n := 70) rfl ?_
          refine q_iald (z_dec zd_X9_endsDay 48 rfl) rfl (by decide) (i4) rfl (by omega) (v := (((g_X9_endsDay_4 I i4).2 62 i4) + (-1))) (by simp [z_up]) (n := 71) rfl ?_
          refine p_if_ge (z_dec zd_X9_endsDay 49 rfl) (t := 78) (by decide) (n := 74) rfl (fun h71 => ?_) (fun h71 => ?_)
          · refine p_aload_n (z_dec zd_X9_endsDay 52 rfl) rfl 3 rfl (n := 79) rfl ?_
            refine q_getR (z_dec zd_X9_endsDay 53 rfl) zf_X9_31 (i := 62) rfl rfl (n := 82) rfl ?_
            refine p_iload_n (z_dec zd_X9_endsDay 54 rfl) rfl 1 rfl (n := 83) rfl ?_
            refine q_iald (z_dec zd_X9_endsDay 55 rfl) rfl (by decide) (i4) rfl (by omega) (v := (((g_X9_endsDay_4 I i4).2 62 i4) + (-1))) (by simp [z_up]) (n := 84) rfl ?_
            refine p_bipush (z_dec zd_X9_endsDay 56 rfl) (v := 99) (by decide) (n := 86) rfl ?_
            refine p_icmp_le (z_dec zd_X9_endsDay 57 rfl) (t := 94) (by decide) (n := 89) rfl (fun h86 => ?_) (fun h86 => ?_)
            · refine p_aload_n (z_dec zd_X9_endsDay 60 rfl) rfl 3 rfl (n := 95) rfl ?_
              refine q_getR (z_dec zd_X9_endsDay 61 rfl) zf_X9_31 (i := 62) rfl rfl (n := 98) rfl ?_
              refine p_iload_n (z_dec zd_X9_endsDay 62 rfl) rfl 1 rfl (n := 99) rfl ?_
              refine q_iald (z_dec zd_X9_endsDay 63 rfl) rfl (by decide) (i4) rfl (by omega) (v := (((g_X9_endsDay_4 I i4).2 62 i4) + (-1))) (by simp [z_up]) (n := 100) rfl ?_
              refine q_iast (z_dec zd_X9_endsDay 64 rfl) rfl (by decide) (i4) rfl (by omega) (n := 101) rfl ?_
              refine p_aload_n (z_dec zd_X9_endsDay 65 rfl) rfl 3 rfl (n := 102) rfl ?_
              refine q_getR (z_dec zd_X9_endsDay 66 rfl) zf_X9_37 (i := 64) rfl rfl (n := 105) rfl ?_
              refine p_iload_n (z_dec zd_X9_endsDay 67 rfl) rfl 1 rfl (n := 106) rfl ?_
              refine p_iconst (z_dec zd_X9_endsDay 68 rfl) (v := 0) (by decide) (n := 107) rfl ?_
              refine q_iast (z_dec zd_X9_endsDay 69 rfl) rfl (by decide) (i4) rfl (by omega) (n := 108) rfl ?_
              refine p_iload_n (z_dec zd_X9_endsDay 70 rfl) rfl 2 rfl (n := 109) rfl ?_
              refine p_iload_n (z_dec zd_X9_endsDay 71 rfl) rfl 0 rfl (n := 110) rfl ?_
              refine p_iadd (z_dec zd_X9_endsDay 72 rfl) (n := 111) rfl ?_
              refine p_istore_n (z_dec zd_X9_endsDay 73 rfl) rfl (lv2 := [(1, .int ((g_X9_endsDay_4 I i4).1 + (((g_X9_endsDay_4 I i4).2 64 i4) / 2))), (3, .int (((g_X9_endsDay_4 I i4).2 64 i4) / 2)), (2, .int (nI i4)), (0, .ref 54)]) (by decide) rfl (n := 112) rfl ?_
              refine p_iinc (z_dec zd_X9_endsDay 74 rfl) 2 rfl (v := (nI (i4 + 1))) (nI_1 _) (lv2 := [(2, .int (nI (i4 + 1))), (1, .int ((g_X9_endsDay_4 I i4).1 + (((g_X9_endsDay_4 I i4).2 64 i4) / 2))), (3, .int (((g_X9_endsDay_4 I i4).2 64 i4) / 2)), (0, .ref 54)]) (by decide) rfl (n := 115) rfl ?_
              refine p_goto (z_dec zd_X9_endsDay 75 rfl) (t := 4) (by decide) ?_
              refine z_sub (lv' := [(2, .int (nI (i4 + 1))), (1, .int ((g_X9_endsDay_4 I i4).1 + (((g_X9_endsDay_4 I i4).2 64 i4) / 2))), (0, .ref 54)]) [0, 1, 3] rfl ?_
              have eb : (g_X9_endsDay_4 I) (i4 + 1) = (((g_X9_endsDay_4 I i4).1 + (((g_X9_endsDay_4 I i4).2 64 i4) / 2)), (z_up (z_up (z_up (z_up (g_X9_endsDay_4 I i4).2 63 i4 (((2 * ((g_X9_endsDay_4 I i4).2 63 i4)) + (((g_X9_endsDay_4 I i4).2 64 i4) / 2)) - ((2 * ((g_X9_endsDay_4 I i4).2 63 i4)) + (((g_X9_endsDay_4 I i4).2 64 i4) / 2)) / 256 * 256)) 62 i4 (((g_X9_endsDay_4 I i4).2 62 i4) + (-1))) 62 i4 (((g_X9_endsDay_4 I i4).2 62 i4) + (-1))) 64 i4 0)) := by show gb_X9_endsDay_4 I i4 ((g_X9_endsDay_4 I) i4) = _; unfold gb_X9_endsDay_4; rw [if_neg h50, if_pos h71, if_pos h86]
              refine z_lv (lv' := [(2, .int (nI (i4 + 1))), (1, .int ((g_X9_endsDay_4 I (i4 + 1)).1)), (0, .ref 54)]) (by rw [eb]) rfl (by rw [eb]) (ih4 (by omega))
            · refine p_bipush (z_dec zd_X9_endsDay 58 rfl) (v := 99) (by decide) (n := 91) rfl ?_
              refine p_goto (z_dec zd_X9_endsDay 59 rfl) (t := 100) (by decide) ?_
              refine q_iast (z_dec zd_X9_endsDay 64 rfl) rfl (by decide) (i4) rfl (by omega) (n := 101) rfl ?_
              refine p_aload_n (z_dec zd_X9_endsDay 65 rfl) rfl 3 rfl (n := 102) rfl ?_
              refine q_getR (z_dec zd_X9_endsDay 66 rfl) zf_X9_37 (i := 64) rfl rfl (n := 105) rfl ?_
              refine p_iload_n (z_dec zd_X9_endsDay 67 rfl) rfl 1 rfl (n := 106) rfl ?_
              refine p_iconst (z_dec zd_X9_endsDay 68 rfl) (v := 0) (by decide) (n := 107) rfl ?_
              refine q_iast (z_dec zd_X9_endsDay 69 rfl) rfl (by decide) (i4) rfl (by omega) (n := 108) rfl ?_
              refine p_iload_n (z_dec zd_X9_endsDay 70 rfl) rfl 2 rfl (n := 109) rfl ?_
              refine p_iload_n (z_dec zd_X9_endsDay 71 rfl) rfl 0 rfl (n := 110) rfl ?_
              refine p_iadd (z_dec zd_X9_endsDay 72 rfl) (n := 111) rfl ?_
              refine p_istore_n (z_dec zd_X9_endsDay 73 rfl) rfl (lv2 := [(1, .int ((g_X9_endsDay_4 I i4).1 + (((g_X9_endsDay_4 I i4).2 64 i4) / 2))), (3, .int (((g_X9_endsDay_4 I i4).2 64 i4) / 2)), (2, .int (nI i4)), (0, .ref 54)]) (by decide) rfl (n := 112) rfl ?_
              refine p_iinc (z_dec zd_X9_endsDay 74 rfl) 2 rfl (v := (nI (i4 + 1))) (nI_1 _) (lv2 := [(2, .int (nI (i4 + 1))), (1, .int ((g_X9_endsDay_4 I i4).1 + (((g_X9_endsDay_4 I i4).2 64 i4) / 2))), (3, .int (((g_X9_endsDay_4 I i4).2 64 i4) / 2)), (0, .ref 54)]) (by decide) rfl (n := 115) rfl ?_
              refine p_goto (z_dec zd_X9_endsDay 75 rfl) (t := 4) (by decide) ?_
              refine z_sub (lv' := [(2, .int (nI (i4 + 1))), (1, .int ((g_X9_endsDay_4 I i4).1 + (((g_X9_endsDay_4 I i4).2 64 i4) / 2))), (0, .ref 54)]) [0, 1, 3] rfl ?_
              have eb : (g_X9_endsDay_4 I) (i4 + 1) = (((g_X9_endsDay_4 I i4).1 + (((g_X9_endsDay_4 I i4).2 64 i4) / 2)), (z_up (z_up (z_up (z_up (g_X9_endsDay_4 I i4).2 63 i4 (((2 * ((g_X9_endsDay_4 I i4).2 63 i4)) + (((g_X9_endsDay_4 I i4).2 64 i4) / 2)) - ((2 * ((g_X9_endsDay_4 I i4).2 63 i4)) + (((g_X9_endsDay_4 I i4).2 64 i4) / 2)) / 256 * 256)) 62 i4 (((g_X9_endsDay_4 I i4).2 62 i4) + (-1))) 62 i4 99) 64 i4 0)) := by show gb_X9_endsDay_4 I i4 ((g_X9_endsDay_4 I) i4) = _; unfold gb_X9_endsDay_4; rw [if_neg h50, if_pos h71, if_neg h86]
              refine z_lv (lv' := [(2, .int (nI (i4 + 1))), (1, .int ((g_X9_endsDay_4 I (i4 + 1)).1)), (0, .ref 54)]) (by rw [eb]) rfl (by rw [eb]) (ih4 (by omega))
          · refine p_iconst (z_dec zd_X9_endsDay 50 rfl) (v := 0) (by decide) (n := 75) rfl ?_
            refine p_goto (z_dec zd_X9_endsDay 51 rfl) (t := 100) (by decide) ?_
            refine q_iast (z_dec zd_X9_endsDay 64 rfl) rfl (by decide) (i4) rfl (by omega) (n := 101) rfl ?_
            refine p_aload_n (z_dec zd_X9_endsDay 65 rfl) rfl 3 rfl (n := 102) rfl ?_
            refine q_getR (z_dec zd_X9_endsDay 66 rfl) zf_X9_37 (i := 64) rfl rfl (n := 105) rfl ?_
            refine p_iload_n (z_dec zd_X9_endsDay 67 rfl) rfl 1 rfl (n := 106) rfl ?_
            refine p_iconst (z_dec zd_X9_endsDay 68 rfl) (v := 0) (by decide) (n := 107) rfl ?_
            refine q_iast (z_dec zd_X9_endsDay 69 rfl) rfl (by decide) (i4) rfl (by omega) (n := 108) rfl ?_
            refine p_iload_n (z_dec zd_X9_endsDay 70 rfl) rfl 2 rfl (n := 109) rfl ?_
            refine p_iload_n (z_dec zd_X9_endsDay 71 rfl) rfl 0 rfl (n := 110) rfl ?_
            refine p_iadd (z_dec zd_X9_endsDay 72 rfl) (n := 111) rfl ?_
            refine p_istore_n (z_dec zd_X9_endsDay 73 rfl) rfl (lv2 := [(1, .int ((g_X9_endsDay_4 I i4).1 + (((g_X9_endsDay_4 I i4).2 64 i4) / 2))), (3, .int (((g_X9_endsDay_4 I i4).2 64 i4) / 2)), (2, .int (nI i4)), (0, .ref 54)]) (by decide) rfl (n := 112) rfl ?_
            refine p_iinc (z_dec zd_X9_endsDay 74 rfl) 2 rfl (v := (nI (i4 + 1))) (nI_1 _) (lv2 := [(2, .int (nI (i4 + 1))), (1, .int ((g_X9_endsDay_4 I i4).1 + (((g_X9_endsDay_4 I i4).2 64 i4) / 2))), (3, .int (((g_X9_endsDay_4 I i4).2 64 i4) / 2)), (0, .ref 54)]) (by decide) rfl (n := 115) rfl ?_
            refine p_goto (z_dec zd_X9_endsDay 75 rfl) (t := 4) (by decide) ?_
            refine z_sub (lv' := [(2, .int (nI (i4 + 1))), (1, .int ((g_X9_endsDay_4 I i4).1 + (((g_X9_endsDay_4 I i4).2 64 i4) / 2))), (0, .ref 54)]) [0, 1, 3] rfl ?_
            have eb : (g_X9_endsDay_4 I) (i4 + 1) = (((g_X9_endsDay_4 I i4).1 + (((g_X9_endsDay_4 I i4).2 64 i4) / 2)), (z_up (z_up (z_up (z_up (g_X9_endsDay_4 I i4).2 63 i4 (((2 * ((g_X9_endsDay_4 I i4).2 63 i4)) + (((g_X9_endsDay_4 I i4).2 64 i4) / 2)) - ((2 * ((g_X9_endsDay_4 I i4).2 63 i4)) + (((g_X9_endsDay_4 I i4).2 64 i4) / 2)) / 256 * 256)) 62 i4 (((g_X9_endsDay_4 I i4).2 62 i4) + (-1))) 62 i4 0) 64 i4 0)) := by show gb_X9_endsDay_4 I i4 ((g_X9_endsDay_4 I) i4) = _; unfold gb_X9_endsDay_4; rw [if_neg h50, if_neg h71]
            refine z_lv (lv' := [(2, .int (nI (i4 + 1))), (1, .int ((g_X9_endsDay_4 I (i4 + 1)).1)), (0, .ref 54)]) (by rw [eb]) rfl (by rw [eb]) (ih4 (by omega))
        · refine p_iconst (z_dec zd_X9_endsDay 37 rfl) (v := 3) (by decide) (n := 54) rfl ?_
          refine p_goto (z_dec zd_X9_endsDay 38 rfl) (t := 58) (by decide) ?_
          refine p_iadd (z_dec zd_X9_endsDay 40 rfl) (n := 59) rfl ?_
          refine q_iast (z_dec zd_X9_endsDay 41 rfl) rfl (by decide) (i4) rfl (by omega) (n := 60) rfl ?_
          refine p_aload_n (z_dec zd_X9_endsDay 42 rfl) rfl 3 rfl (n := 61) rfl ?_
          refine q_getR (z_dec zd_X9_endsDay 43 rfl) zf_X9_31 (i := 62) rfl rfl (n := 64) rfl ?_
          refine p_iload_n (z_dec zd_X9_endsDay 44 rfl) rfl 1 rfl (n := 65) rfl ?_
          refine p_aload_n (z_dec zd_X9_endsDay 45 rfl) rfl 3 rfl (n := 66) rfl ?_
          refine q_getR (z_dec zd_X9_endsDay 46 rfl) zf_X9_31 (i := 62) rfl rfl (n := 69) rfl ?_
          refine p_iload_n (z_dec zd_X9_endsDay 47 rfl) rfl 1 rfl (n := 70) rfl ?_
          refine q_iald (z_dec zd_X9_endsDay 48 rfl) rfl (by decide) (i4) rfl (by omega) (v := (((g_X9_endsDay_4 I i4).2 62 i4) + 3)) (by simp [z_up]) (n := 71) rfl ?_
          refine p_if_ge (z_dec zd_X9_endsDay 49 rfl) (t := 78) (by decide) (n := 74) rfl (fun h71 => ?_) (fun h71 => ?_)
          · refine p_aload_n (z_dec zd_X9_endsDay 52 rfl) rfl 3 rfl (n := 79) rfl ?_
            refine q_getR (z_dec zd_X9_endsDay 53 rfl) zf_X9_31 (i := 62) rfl rfl (n := 82) rfl ?_
            refine p_iload_n (z_dec zd_X9_endsDay 54 rfl) rfl 1 rfl (n := 83) rfl ?_
            refine q_iald (z_dec zd_X9_endsDay 55 rfl) rfl (by decide) (i4) rfl (by omega) (v := (((g_X9_endsDay_4 I i4).2 62 i4) + 3)) (by simp [z_up]) (n := 84) rfl ?_
            refine p_bipush (z_dec zd_X9_endsDay 56 rfl) (v := 99) (by decide) (n := 86) rfl ?_
            refine p_icmp_le (z_dec zd_X9_endsDay 57 rfl) (t := 94) (by decide) (n := 89) rfl (fun h86 => ?_) (fun h86 => ?_)
            · refine p_aload_n (z_dec zd_X9_endsDay 60 rfl) rfl 3 rfl (n := 95) rfl ?_
              refine q_getR (z_dec zd_X9_endsDay 61 rfl) zf_X9_31 (i := 62) rfl rfl (n := 98) rfl ?_
              refine p_iload_n (z_dec zd_X9_endsDay 62 rfl) rfl 1 rfl (n := 99) rfl ?_
              refine q_iald (z_dec zd_X9_endsDay 63 rfl) rfl (by decide) (i4) rfl (by omega) (v := (((g_X9_endsDay_4 I i4).2 62 i4) + 3)) (by simp [z_up]) (n := 100) rfl ?_
              refine q_iast (z_dec zd_X9_endsDay 64 rfl) rfl (by decide) (i4) rfl (by omega) (n := 101) rfl ?_
              refine p_aload_n (z_dec zd_X9_endsDay 65 rfl) rfl 3 rfl (n := 102) rfl ?_
              refine q_getR (z_dec zd_X9_endsDay 66 rfl) zf_X9_37 (i := 64) rfl rfl (n := 105) rfl ?_
              refine p_iload_n (z_dec zd_X9_endsDay 67 rfl) rfl 1 rfl (n := 106) rfl ?_
              refine p_iconst (z_dec zd_X9_endsDay 68 rfl) (v := 0) (by decide) (n := 107) rfl ?_
              refine q_iast (z_dec zd_X9_endsDay 69 rfl) rfl (by decide) (i4) rfl (by omega) (n := 108) rfl ?_
              refine p_iload_n (z_dec zd_X9_endsDay 70 rfl) rfl 2 rfl (n := 109) rfl ?_
              refine p_iload_n (z_dec zd_X9_endsDay 71 rfl) rfl 0 rfl (n := 110) rfl ?_
              refine p_iadd (z_dec zd_X9_endsDay 72 rfl) (n := 111) rfl ?_
              refine p_istore_n (z_dec zd_X9_endsDay 73 rfl) rfl (lv2 := [(1, .int ((g_X9_endsDay_4 I i4).1 + (((g_X9_endsDay_4 I i4).2 64 i4) / 2))), (3, .int (((g_X9_endsDay_4 I i4).2 64 i4) / 2)), (2, .int (nI i4)), (0, .ref 54)]) (by decide) rfl (n := 112) rfl ?_
              refine p_iinc (z_dec zd_X9_endsDay 74 rfl) 2 rfl (v := (nI (i4 + 1))) (nI_1 _) (lv2 := [(2, .int (nI (i4 + 1))), (1, .int ((g_X9_endsDay_4 I i4).1 + (((g_X9_endsDay_4 I i4).2 64 i4) / 2))), (3, .int (((g_X9_endsDay_4 I i4).2 64 i4) / 2)), (0, .ref 54)]) (by decide) rfl (n := 115) rfl ?_
              refine p_goto (z_dec zd_X9_endsDay 75 rfl) (t := 4) (by decide) ?_
              refine z_sub (lv' := [(2, .int (nI (i4 + 1))), (1, .int ((g_X9_endsDay_4 I i4).1 + (((g_X9_endsDay_4 I i4).2 64 i4) / 2))), (0, .ref 54)]) [0, 1, 3] rfl ?_
              have eb : (g_X9_endsDay_4 I) (i4 + 1) = (((g_X9_endsDay_4 I i4).1 + (((g_X9_endsDay_4 I i4).2 64 i4) / 2)), (z_up (z_up (z_up (z_up (g_X9_endsDay_4 I i4).2 63 i4 (((2 * ((g_X9_endsDay_4 I i4).2 63 i4)) + (((g_X9_endsDay_4 I i4).2 64 i4) / 2)) - ((2 * ((g_X9_endsDay_4 I i4).2 63 i4)) + (((g_X9_endsDay_4 I i4).2 64 i4) / 2)) / 256 * 256)) 62 i4 (((g_X9_endsDay_4 I i4).2 62 i4) + 3)) 62 i4 (((g_X9_endsDay_4 I i4).2 62 i4) + 3)) 64 i4 0)) := by show gb_X9_endsDay_4 I i4 ((g_X9_endsDay_4 I) i4) = _; unfold gb_X9_endsDay_4; rw [if_pos h50, if_pos h71, if_pos h86]
              refine z_lv (lv' := [(2, .int (nI (i4 + 1))), (1, .int ((g_X9_endsDay_4 I (i4 + 1)).1)), (0, .ref 54)]) (by rw [eb]) rfl (by rw [eb]) (ih4 (by omega))
            · refine p_bipush (z_dec zd_X9_endsDay 58 rfl) (v := 99) (by decide) (n := 91) rfl ?_
              refine p_goto (z_dec zd_X9_endsDay 59 rfl) (t := 100) (by decide) ?_
              refine q_iast (z_dec zd_X9_endsDay 64 rfl) rfl (by decide) (i4) rfl (by omega) (n := 101) rfl ?_
              refine p_aload_n (z_dec zd_X9_endsDay 65 rfl) rfl 3 rfl (n := 102) rfl ?_
              refine q_getR (z_dec zd_X9_endsDay 66 rfl) zf_X9_37 (i := 64) rfl rfl (n := 105) rfl ?_
              refine p_iload_n (z_dec zd_X9_endsDay 67 rfl) rfl 1 rfl (n := 106) rfl ?_
              refine p_iconst (z_dec zd_X9_endsDay 68 rfl) (v := 0) (by decide) (n := 107) rfl ?_
              refine q_iast (z_dec zd_X9_endsDay 69 rfl) rfl (by decide) (i4) rfl (by omega) (n := 108) rfl ?_
              refine p_iload_n (z_dec zd_X9_endsDay 70 rfl) rfl 2 rfl (n := 109) rfl ?_
              refine p_iload_n (z_dec zd_X9_endsDay 71 rfl) rfl 0 rfl (n := 110) rfl ?_
              refine p_iadd (z_dec zd_X9_endsDay 72 rfl) (n := 111) rfl ?_
              refine p_istore_n (z_dec zd_X9_endsDay 73 rfl) rfl (lv2 := [(1, .int ((g_X9_endsDay_4 I i4).1 + (((g_X9_endsDay_4 I i4).2 64 i4) / 2))), (3, .int (((g_X9_endsDay_4 I i4).2 64 i4) / 2)), (2, .int (nI i4)), (0, .ref 54)]) (by decide) rfl (n := 112) rfl ?_
              refine p_iinc (z_dec zd_X9_endsDay 74 rfl) 2 rfl (v := (nI (i4 + 1))) (nI_1 _) (lv2 := [(2, .int (nI (i4 + 1))), (1, .int ((g_X9_endsDay_4 I i4).1 + (((g_X9_endsDay_4 I i4).2 64 i4) / 2))), (3, .int (((g_X9_endsDay_4 I i4).2 64 i4) / 2)), (0, .ref 54)]) (by decide) rfl (n := 115) rfl ?_
              refine p_goto (z_dec zd_X9_endsDay 75 rfl) (t := 4) (by decide) ?_
              refine z_sub (lv' := [(2, .int (nI (i4 + 1))), (1, .int ((g_X9_endsDay_4 I i4).1 + (((g_X9_endsDay_4 I i4).2 64 i4) / 2))), (0, .ref 54)]) [0, 1, 3] rfl ?_
              have eb : (g_X9_endsDay_4 I) (i4 + 1) = (((g_X9_endsDay_4 I i4).1 + (((g_X9_endsDay_4 I i4).2 64 i4) / 2)), (z_up (z_up (z_up (z_up (g_X9_endsDay_4 I i4).2 63 i4 (((2 * ((g_X9_endsDay_4 I i4).2 63 i4)) + (((g_X9_endsDay_4 I i4).2 64 i4) / 2)) - ((2 * ((g_X9_endsDay_4 I i4).2 63 i4)) + (((g_X9_endsDay_4 I i4).2 64 i4) / 2)) / 256 * 256)) 62 i4 (((g_X9_endsDay_4 I i4).2 62 i4) + 3)) 62 i4 99) 64 i4 0)) := by show gb_X9_endsDay_4 I i4 ((g_X9_endsDay_4 I) i4) = _; unfold gb_X9_endsDay_4; rw [if_pos h50, if_pos h71, if_neg h86]
              refine z_lv (lv' := [(2, .int (nI (i4 + 1))), (1, .int ((g_X9_endsDay_4 I (i4 + 1)).1)), (0, .ref 54)]) (by rw [eb]) rfl (by rw [eb]) (ih4 (by omega))
          · refine p_iconst (z_dec zd_X9_endsDay 50 rfl) (v := 0) (by decide) (n := 75) rfl ?_
            refine p_goto (z_dec zd_X9_endsDay 51 rfl) (t := 100) (by decide) ?_
            refine q_iast (z_dec zd_X9_endsDay 64 rfl) rfl (by decide) (i4) rfl (by omega) (n := 101) rfl ?_
            refine p_aload_n (z_dec zd_X9_endsDay 65 rfl) rfl 3 rfl (n := 102) rfl ?_
            refine q_getR (z_dec zd_X9_endsDay 66 rfl) zf_X9_37 (i := 64) rfl rfl (n := 105) rfl ?_
            refine p_iload_n (z_dec zd_X9_endsDay 67 rfl) rfl 1 rfl (n := 106) rfl ?_
            refine p_iconst (z_dec zd_X9_endsDay 68 rfl) (v := 0) (by decide) (n := 107) rfl ?_
            refine q_iast (z_dec zd_X9_endsDay 69 rfl) rfl (by decide) (i4) rfl (by omega) (n := 108) rfl ?_
            refine p_iload_n (z_dec zd_X9_endsDay 70 rfl) rfl 2 rfl (n := 109) rfl ?_
            refine p_iload_n (z_dec zd_X9_endsDay 71 rfl) rfl 0 rfl (n := 110) rfl ?_
            refine p_iadd (z_dec zd_X9_endsDay 72 rfl) (n := 111) rfl ?_
            refine p_istore_n (z_dec zd_X9_endsDay 73 rfl) rfl (lv2 := [(1, .int ((g_X9_endsDay_4 I i4).1 + (((g_X9_endsDay_4 I i4).2 64 i4) / 2))), (3, .int (((g_X9_endsDay_4 I i4).2 64 i4) / 2)), (2, .int (nI i4)), (0, .ref 54)]) (by decide) rfl (n := 112) rfl ?_
            refine p_iinc (z_dec zd_X9_endsDay 74 rfl) 2 rfl (v := (nI (i4 + 1))) (nI_1 _) (lv2 := [(2, .int (nI (i4 + 1))), (1, .int ((g_X9_endsDay_4 I i4).1 + (((g_X9_endsDay_4 I i4).2 64 i4) / 2))), (3, .int (((g_X9_endsDay_4 I i4).2 64 i4) / 2)), (0, .ref 54)]) (by decide) rfl (n := 115) rfl ?_
            refine p_goto (z_dec zd_X9_endsDay 75 rfl) (t := 4) (by decide) ?_
            refine z_sub (lv' := [(2, .int (nI (i4 + 1))), (1, .int ((g_X9_endsDay_4 I i4).1 + (((g_X9_endsDay_4 I i4).2 64 i4) / 2))), (0, .ref 54)]) [0, 1, 3] rfl ?_
            have eb : (g_X9_endsDay_4 I) (i4 + 1) = (((g_X9_endsDay_4 I i4).1 + (((g_X9_endsDay_4 I i4).2 64 i4) / 2)), (z_up (z_up (z_up (z_up (g_X9_endsDay_4 I i4).2 63 i4 (((2 * ((g_X9_endsDay_4 I i4).2 63 i4)) + (((g_X9_endsDay_4 I i4).2 64 i4) / 2)) - ((2 * ((g_X9_endsDay_4 I i4).2 63 i4)) + (((g_X9_endsDay_4 I i4).2 64 i4) / 2)) / 256 * 256)) 62 i4 (((g_X9_endsDay_4 I i4).2 62 i4) + 3)) 62 i4 0) 64 i4 0)) := by show gb_X9_endsDay_4 I i4 ((g_X9_endsDay_4 I) i4) = _; unfold gb_X9_endsDay_4; rw [if_pos h50, if_neg h71]
            refine z_lv (lv' := [(2, .int (nI (i4 + 1))), (1, .int ((g_X9_endsDay_4 I (i4 + 1)).1)), (0, .ref 54)]) (by rw [eb]) rfl (by rw [eb]) (ih4 (by omega))
    refine z_lv (lv' := [(2, .int (nI 0)), (1, .int ((g_X9_endsDay_4 I 0).1)), (0, .ref 54)]) rfl rfl rfl (hL4 0 (Nat.zero_le _))
  exact hentry
