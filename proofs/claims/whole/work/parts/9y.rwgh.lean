/-! THE CLASS AGAINST THE REFERENCE: order, the class's table -/
theorem yj_sh6 : ∀ k : Nat, k < 10 → (6 * nI k).toInt64.toUInt64 &&& Int64.toUInt64 63 = UInt64.ofNat (6 * k) := by decide +kernel
theorem yj_ex {P k : Nat} (hP : P < 64 ^ 10) (hk : k < 10) : ((((Int64.ofNat P).toUInt64 >>> ((6 * nI k).toInt64.toUInt64 &&& Int64.toUInt64 63)).toInt64).toInt32) &&& 63 = nI (P / 64 ^ k % 64) := by
  rw [yj_sh6 k hk, show (Int64.ofNat P).toUInt64 = UInt64.ofNat P from rfl]
  have e : (UInt64.ofNat P >>> UInt64.ofNat (6 * k)).toNat = P / 64 ^ k := by
    rw [UInt64.toNat_shiftRight, UInt64.toNat_ofNat', UInt64.toNat_ofNat', Nat.shiftRight_eq_div_pow, Nat.mod_eq_of_lt (show 6 * k < 2 ^ 64 by omega), Nat.mod_eq_of_lt (show 6 * k < 64 by omega), Nat.mod_eq_of_lt (show P < 2 ^ 64 by omega), Nat.pow_mul]
  generalize UInt64.ofNat P >>> UInt64.ofNat (6 * k) = x at e ⊢
  apply Int32.toBitVec_inj.mp
  apply BitVec.eq_of_toNat_eq
  have e1 : (x.toInt64.toInt32 &&& 63).toBitVec.toNat = (x.toNat % 2 ^ 32) % 64 := by
    rw [Int32.toBitVec_and, BitVec.toNat_and]
    have e2 : x.toInt64.toInt32.toBitVec.toNat = x.toNat % 2 ^ 32 := by
      show (BitVec.signExtend 32 x.toBitVec).toNat = _
      rw [BitVec.signExtend_eq_setWidth_of_le _ (by omega), BitVec.toNat_setWidth]
      rfl
    rw [e2, show (63 : Int32).toBitVec.toNat = 2 ^ 6 - 1 from rfl, Nat.and_two_pow_sub_one_eq_mod]
  rw [e1, e]
  show P / 64 ^ k % 2 ^ 32 % 64 = (BitVec.ofNat 32 (P / 64 ^ k % 64)).toNat
  rw [BitVec.toNat_ofNat]
  omega
theorem yj_pkA (d e : Nat → Nat) : ∀ n : Nat, yj_pk d n + yj_pk e n = yj_pk (fun l => d l + e l) n
  | 0 => rfl
  | n + 1 => by
    show yj_pk d n + d n * 64 ^ n + (yj_pk e n + e n * 64 ^ n) = yj_pk (fun l => d l + e l) n + (d n + e n) * 64 ^ n
    rw [← yj_pkA d e n, Nat.add_mul]; omega
theorem yj_pkE {d e : Nat → Nat} : ∀ {n : Nat}, (∀ l, l < n → d l = e l) → yj_pk d n = yj_pk e n
  | 0, _ => rfl
  | n + 1, h => by
    show yj_pk d n + d n * 64 ^ n = yj_pk e n + e n * 64 ^ n
    rw [h n (Nat.lt_succ_self _), yj_pkE (fun l hl => h l (by omega))]
theorem yj_pkD {d : Nat → Nat} (h : ∀ l, d l < 64) : ∀ n : Nat, yj_pk d n < 64 ^ n ∧ ∀ l, l < n → yj_pk d n / 64 ^ l % 64 = d l
  | 0 => ⟨(by decide : (0 : Nat) < 64 ^ 0), fun l hl => absurd hl (Nat.not_lt_zero _)⟩
  | n + 1 => by
    obtain ⟨h1, h2⟩ := yj_pkD h n
    have pos : ∀ m : Nat, 0 < 64 ^ m := fun m => Nat.pow_pos (by decide)
    show yj_pk d n + d n * 64 ^ n < 64 ^ (n + 1) ∧ ∀ l, l < n + 1 → (yj_pk d n + d n * 64 ^ n) / 64 ^ l % 64 = d l
    refine ⟨?_, fun l hl => ?_⟩
    · rw [Nat.pow_succ]
      have a := h n
      have b : d n * 64 ^ n ≤ 63 * 64 ^ n := Nat.mul_le_mul_right _ (by omega)
      omega
    · by_cases e : l = n
      · subst e
        rw [Nat.add_mul_div_right _ _ (pos l), Nat.div_eq_of_lt h1, Nat.zero_add]
        exact Nat.mod_eq_of_lt (h l)
      · have e2 : d n * 64 ^ n = 64 ^ l * (d n * 64 ^ (n - l - 1) * 64) := by
          rw [show n = l + (n - l - 1) + 1 by omega, Nat.pow_succ, Nat.pow_add, show l + (n - l - 1) + 1 - l - 1 = n - l - 1 by omega]
          simp only [Nat.mul_assoc, Nat.mul_comm, Nat.mul_left_comm]
        rw [e2, Nat.add_mul_div_left _ _ (pos l), Nat.add_mul_mod_self_right]
        exact h2 l (by omega)
theorem yj_upQ (c : Nat → Nat → Nat) (l : Nat) {t q : Nat} (ht : t < 2 ^ q) : ∀ n : Nat, yj_up c l (t + 2 ^ q) n = yj_up c l t n + (if q < n then c q l else 0)
  | 0 => by show 0 = 0 + _; rw [if_neg (by omega)]
  | n + 1 => by
    have ih := yj_upQ c l ht n
    show yj_up c l (t + 2 ^ q) n + (if (t + 2 ^ q).testBit n = true then c n l else 0) = yj_up c l t n + (if t.testBit n = true then c n l else 0) + _
    rw [ih, ← yq_or ht, Nat.testBit_or, Nat.testBit_two_pow]
    by_cases e : q = n
    · subst e
      have z : t.testBit q = false := Nat.testBit_lt_two_pow ht
      rw [z, decide_eq_true (rfl : q = q), if_neg (show ¬ q < q from Nat.lt_irrefl _), if_pos (show q < q + 1 from Nat.lt_succ_self _), if_pos (by decide), if_neg (by decide)]
    · rw [decide_eq_false e, Bool.or_false]
      by_cases g : q < n
      · rw [if_pos g, if_pos (show q < n + 1 by omega)]; omega
      · rw [if_neg g, if_neg (show ¬ q < n + 1 by omega)]; omega
theorem yj_upB {np t : Nat} {c : Nat → Nat → Nat} {C R : Nat → Nat → Int32} {CL : Nat → Nat → Int64} (h : yj_K np t c C R CL) {x p : Nat} (hx : x < 1024) (hp : p < 10) : ∀ n : Nat, n ≤ 10 → yj_up c p x n = yj_up c p (yj_bh x p) n
  | 0, _ => rfl
  | n + 1, hn => by
    show yj_up c p x n + (if x.testBit n = true then c n p else 0) = yj_up c p (yj_bh x p) n + (if (yj_bh x p).testBit n = true then c n p else 0)
    rw [yj_upB h hx hp n (by omega), (yj_bhB hx hp).2 n (by omega)]
    by_cases e : n = p
    · subst e
      rw [h.2.2.2.2 n n (Or.inr (Or.inr rfl)), ite_self, ite_self]
    · rw [decide_eq_true e, Bool.and_true]
/-- the class's table so far -/
def yj_tC2 (c : Nat → Nat → Nat) (np x : Nat) (F : Nat → Nat) (C : Nat → Nat → Int32) (CL : Nat → Nat → Int64) : Prop := ∀ y, y < x → C 30 y = nI (F y) ∧ CL 29 y = Int64.ofNat (yj_pk (fun l => yj_up c l y np) 10)
theorem yj_led {np t : Nat} {c : Nat → Nat → Nat} {C R C' : Nat → Nat → Int32} {CL CL' : Nat → Nat → Int64} (h : yj_K np t c C R CL) (hn : np ≤ 10) (ht : t < 64) {x p : Nat} (hx : x < 1024) (hp : p < 10) {F : Nat → Nat} (h30 : C' 30 (yj_bh x p) = nI (F (yj_bh x p))) (h29 : CL' 29 x = Int64.ofNat (yj_pk (fun l => yj_up c l x np) 10)) : f_X2_upsetLedBy C' CL' p x = nI (yj_vl c np F x p) := by
  obtain ⟨d1, d2⟩ := yj_pkD (d := fun l => yj_up c l x np) (fun l => Nat.lt_of_le_of_lt (yj_up20 h l x hn) ht) 10
  have e : f_X2_upsetLedBy C' CL' p x = ((((CL' 29 x).toUInt64 >>> ((6 * nI p).toInt64.toUInt64 &&& Int64.toUInt64 63)).toInt64).toInt32 &&& 63) + C' 30 (yj_bh x p) := rfl
  rw [e, h29, h30, yj_ex d1 hp, d2 p hp, nI_add, Nat.add_comm]
  unfold yj_vl
  rw [yj_upB h hx hp np hn]
theorem yj_few {np : Nat} {c : Nat → Nat → Nat} {C R C' : Nat → Nat → Int32} {CL CL' : Nat → Nat → Int64} (h : yj_K np 20 c C R CL) (hn : np ≤ 10) {x : Nat} (hx : x < 1024) {F : Nat → Nat} (hF : ∀ y, y < x → F y ≤ 20 * y) (h30 : ∀ y, y < x → C' 30 y = nI (F y)) (h29 : CL' 29 x = Int64.ofNat (yj_pk (fun l => yj_up c l x np) 10)) : ∀ n : Nat, n ≤ np → ∃ v, v ≤ 2147483647 ∧ g_X2_fewestOf_5 C' CL' x n = nI v ∧ (∀ p, p < n → x.testBit p = true → v ≤ yj_vl c np F x p) ∧ (v = 2147483647 ∨ ∃ p, p < n ∧ x.testBit p = true ∧ v = yj_vl c np F x p)
  | 0, _ => ⟨2147483647, Nat.le_refl _, rfl, fun p hp => absurd hp (Nat.not_lt_zero _), Or.inl rfl⟩
  | n + 1, hn1 => by
    obtain ⟨v, v1, v2, v3, v4⟩ := yj_few h hn hx hF h30 h29 n (by omega)
    show ∃ v, v ≤ 2147483647 ∧ gb_X2_fewestOf_5 C' CL' x n (g_X2_fewestOf_5 C' CL' x n) = nI v ∧ _
    unfold gb_X2_fewestOf_5
    rw [v2]
    by_cases q : x.testBit n = false
    · rw [if_pos ((yj_bitT (by omega)).mpr q)]
      refine ⟨v, v1, rfl, fun p hp hb => ?_, ?_⟩
      · by_cases e : p = n
        · subst e; rw [q] at hb; exact absurd hb (by decide)
        · exact v3 p (by omega) hb
      · rcases v4 with z | ⟨p, p1, p2⟩
        · exact Or.inl z
        · exact Or.inr ⟨p, by omega, p2⟩
    · have q2 : x.testBit n = true := by cases w : x.testBit n; exact absurd w q; rfl
      have lt := yj_bhL hx (show n < 10 by omega) q2
      have u := yj_up20 h n (yj_bh x n) hn
      have f := hF _ lt
      have vl : yj_vl c np F x n ≤ 1000000 := by unfold yj_vl; omega
      rw [if_neg (fun w => q ((yj_bitT (by omega)).mp w)), yj_led h hn (by omega) hx (by omega) (h30 _ lt) h29]
      by_cases le : yj_vl c np F x n < v
      · rw [if_pos (nI_lt le (by omega))]
        refine ⟨_, by omega, rfl, fun p hp hb => ?_, Or.inr ⟨n, by omega, q2, rfl⟩⟩
        by_cases e : p = n
        · subst e; exact Nat.le_refl _
        · have := v3 p (by omega) hb; omega
      · rw [if_neg (nI_nlt (by omega) (by omega))]
        refine ⟨v, v1, rfl, fun p hp hb => ?_, ?_⟩
        · by_cases e : p = n
          · subst e; omega
          · exact v3 p (by omega) hb
        · rcases v4 with z | ⟨p, p1, p2⟩
          · exact Or.inl z
          · exact Or.inr ⟨p, by omega, p2⟩
theorem yj_fewF {np : Nat} {c : Nat → Nat → Nat} {C R C' : Nat → Nat → Int32} {CL CL' : Nat → Nat → Int64} (h : yj_K np 20 c C R CL) (hn : np ≤ 10) {x : Nat} (hx : x < 2 ^ np) {F : Nat → Nat} (hF : ∀ y, y < x → F y ≤ 20 * y) (h30 : ∀ y, y < x → C' 30 y = nI (F y)) (h29 : CL' 29 x = Int64.ofNat (yj_pk (fun l => yj_up c l x np) 10)) (hr : yj_rec c np F x) : f_X2_fewestOf C' CL' np x = nI (F x) := by
  have p10 : 2 ^ np ≤ 1024 := Nat.pow_le_pow_right (n := 2) (by decide) hn
  obtain ⟨v, v1, v2, v3, v4⟩ := yj_few h hn (show x < 1024 by omega) hF h30 h29 np (Nat.le_refl _)
  obtain ⟨r1, p, p1, p2, p3⟩ := hr
  have lt := yj_bhL (show x < 1024 by omega) (show p < 10 by omega) p2
  have u := yj_up20 h p (yj_bh x p) hn
  have f := hF _ lt
  have vl : yj_vl c np F x p ≤ 1000000 := by unfold yj_vl; omega
  have a := v3 p p1 p2
  show g_X2_fewestOf_5 C' CL' x np = nI (F x)
  rw [v2]
  rcases v4 with z | ⟨q, q1, q2, q3⟩
  · exact absurd z (by omega)
  · have b := r1 q q1 q2
    rw [show v = F x by omega]
theorem yj_w26 {np q : Nat} {c : Nat → Nat → Nat} {C R : Nat → Nat → Int32} {CL : Nat → Nat → Int64} (h : yj_K np 20 c C R CL) (hn : np ≤ 10) (hq : q < np) {F : Nat → Nat} (hF0 : F 0 = 0) (hF : ∀ y, y < 2 ^ np → F y ≤ 20 * y ∧ (0 < y → yj_rec c np F y)) : ∀ (r t : Nat) (C' : Nat → Nat → Int32) (CL' : Nat → Nat → Int64), t + r = 2 ^ q → (∀ j, j < 10 → CL' 28 j = CL 28 j) → yj_tC2 c np (t + 2 ^ q) F C' CL' → (∀ a j, a ≠ 30 → (gw_X2_weigh_26 np q r t C' CL').1 a j = C' a j) ∧ (∀ a j, a ≠ 29 → (gw_X2_weigh_26 np q r t C' CL').2 a j = CL' a j) ∧ yj_tC2 c np (2 ^ (q + 1)) F (gw_X2_weigh_26 np q r t C' CL').1 (gw_X2_weigh_26 np q r t C' CL').2
  | 0, t, C', CL', ht, h28, hT => ⟨fun _ _ _ => rfl, fun _ _ _ => rfl, by
      rw [show t + 2 ^ q = 2 ^ (q + 1) by rw [Nat.pow_succ]; omega] at hT
      exact hT⟩
  | r + 1, t, C', CL', ht, h28, hT => by
    have lt : t + 2 ^ q < 2 ^ np := by
      have : 2 ^ (q + 1) ≤ 2 ^ np := Nat.pow_le_pow_right (by decide) hq
      rw [Nat.pow_succ] at this
      omega
    have pq : 0 < 2 ^ q := Nat.pow_pos (by decide)
    have e29 : CL' 29 t + CL' 28 q = Int64.ofNat (yj_pk (fun l => yj_up c l (t + 2 ^ q) np) 10) := by
      rw [(hT t (by omega)).2, h28 q (by omega), h.2.2.1 q (by omega), ← Int64.ofNat_add, yj_pkA]
      congr 1
      exact yj_pkE (fun l _ => by
        show yj_up c l t np + c q l = yj_up c l (t + 2 ^ q) np
        rw [yj_upQ c l (show t < 2 ^ q by omega), if_pos hq])
    have fw := yj_fewF (C' := C') (CL' := z_up CL' 29 (t + 2 ^ q) (CL' 29 t + CL' 28 q)) h hn lt (F := F) (fun y hy => (hF y (by omega)).1) (fun y hy => (hT y hy).1) ((z_up_s _ _ _ _).trans e29) ((hF _ lt).2 (by omega))
    unfold gw_X2_weigh_26
    rw [fw]
    obtain ⟨g1, g2, g3⟩ := yj_w26 h hn hq hF0 hF r (t + 1) (z_up C' 30 (t + 2 ^ q) (nI (F (t + 2 ^ q)))) (z_up CL' 29 (t + 2 ^ q) (CL' 29 t + CL' 28 q)) (by omega) (fun j hj => (z_up_k _ _ (by omega)).trans (h28 j hj)) (fun y hy => by
      by_cases e : y = t + 2 ^ q
      · rw [e, z_up_s, z_up_s]; exact ⟨rfl, e29⟩
      · rw [z_up_j _ _ e, z_up_j _ _ e]; exact hT y (by omega))
    exact ⟨fun a j z => (g1 a j z).trans (z_up_k _ _ z), fun a j z => (g2 a j z).trans (z_up_k _ _ z), g3⟩
theorem yj_w16b {np : Nat} {c : Nat → Nat → Nat} {C R : Nat → Nat → Int32} {CL : Nat → Nat → Int64} (h : yj_K np 20 c C R CL) (hn : np ≤ 10) {F : Nat → Nat} (hF0 : F 0 = 0) (hF : ∀ y, y < 2 ^ np → F y ≤ 20 * y ∧ (0 < y → yj_rec c np F y)) : ∀ (r t : Nat) (C' : Nat → Nat → Int32) (CL' : Nat → Nat → Int64), t + r = np → (∀ j, j < 10 → CL' 28 j = CL 28 j) → yj_tC2 c np (2 ^ t) F C' CL' → (∀ a j, a ≠ 30 → (gw_X2_weigh_16 np r t C' CL').1 a j = C' a j) ∧ (∀ a j, a ≠ 29 → (gw_X2_weigh_16 np r t C' CL').2 a j = CL' a j) ∧ yj_tC2 c np (2 ^ np) F (gw_X2_weigh_16 np r t C' CL').1 (gw_X2_weigh_16 np r t C' CL').2
  | 0, t, C', CL', ht, h28, hT => ⟨fun _ _ _ => rfl, fun _ _ _ => rfl, by
      rw [show t = np by omega] at hT
      exact hT⟩
  | r + 1, t, C', CL', ht, h28, hT => by
    obtain ⟨g1, g2, g3⟩ := yj_w26 h hn (show t < np by omega) hF0 hF (2 ^ t) 0 C' CL' (by omega) h28 (by rw [Nat.zero_add]; exact hT)
    unfold gw_X2_weigh_16
    obtain ⟨k1, k2, k3⟩ := yj_w16b h hn hF0 hF r (t + 1) _ _ (by omega) (fun j hj => (g2 28 j (by omega)).trans (h28 j hj)) g3
    exact ⟨fun a j z => (k1 a j z).trans (g1 a j z), fun a j z => (k2 a j z).trans (g2 a j z), k3⟩
theorem yj_weigh {np : Nat} {c : Nat → Nat → Nat} {C R : Nat → Nat → Int32} {CL : Nat → Nat → Int64} (h : yj_K np 20 c C R CL) (hn : np ≤ 10) {F : Nat → Nat} (hF0 : F 0 = 0) (hF : ∀ y, y < 2 ^ np → F y ≤ 20 * y ∧ (0 < y → yj_rec c np F y)) : (∀ a j, a ≠ 30 → m_X2_weigh C CL np a j = C a j) ∧ (∀ a j, a ≠ 29 → n_X2_weigh C CL np a j = CL a j) ∧ yj_tC2 c np (2 ^ np) F (m_X2_weigh C CL np) (n_X2_weigh C CL np) := by
  obtain ⟨k1, k2, k3⟩ := yj_w16b h hn hF0 hF np 0 (z_up C 30 0 0) (z_up CL 29 0 0) (by omega) (fun j hj => z_up_k _ _ (by omega)) (fun y hy => by
    have : y = 0 := by
      have : (2 : Nat) ^ 0 = 1 := rfl
      omega
    rw [this, z_up_s, z_up_s, hF0]
    refine ⟨rfl, ?_⟩
    have z : ∀ (l n : Nat), yj_up c l 0 n = 0 := by
      intro l n
      induction n with
      | zero => rfl
      | succ n ih =>
        show yj_up c l 0 n + (if (0 : Nat).testBit n = true then c n l else 0) = 0
        rw [ih, Nat.zero_testBit, if_neg (by decide)]
    rw [yj_pkE (e := fun _ => 0) (fun l _ => z l np), yj_pk0]; rfl)
  exact ⟨fun a j z => (k1 a j z).trans (z_up_k _ _ z), fun a j z => (k2 a j z).trans (z_up_k _ _ z), k3⟩
