/-! THE CLASS AGAINST THE REFERENCE: cards and days gone through -/
def yj_fC (C C' : Nat → Nat → Int32) : Prop := ∀ a j, yj_kC a j → C' a j = C a j
def yj_fR (R R' : Nat → Nat → Int32) : Prop := ∀ a j, (yj_kR a j ∨ a < 54) → R' a j = R a j
theorem yj_fCrf (C : Nat → Nat → Int32) : yj_fC C C := fun _ _ _ => rfl
theorem yj_fRrf (R : Nat → Nat → Int32) : yj_fR R R := fun _ _ _ => rfl
theorem yj_fCtr {C C' C'' : Nat → Nat → Int32} (h : yj_fC C C') (g : yj_fC C' C'') : yj_fC C C'' := fun a j q => (g a j q).trans (h a j q)
theorem yj_fRtr {C C' C'' : Nat → Nat → Int32} (h : yj_fR C C') (g : yj_fR C' C'') : yj_fR C C'' := fun a j q => (g a j q).trans (h a j q)
theorem yj_fL {sz : Nat} {b : Bool} {C R C' R' : Nat → Nat → Int32} (h : yj_L sz b C R) (hC : yj_fC C C') (hR : yj_fR R R') : yj_L sz b C' R' :=
  yj_Lf h (hC 13 4 (by unfold yj_kC; omega)) (funext fun j => hC _ j (by cases b; exact Or.inr (Or.inr (Or.inr (Or.inl rfl))); exact Or.inr (Or.inr (Or.inr (Or.inr (Or.inl rfl)))))) (hR 54 10 (Or.inl (by unfold yj_kR; omega))) (funext fun j => hR 60 j (Or.inl (by unfold yj_kR; omega)))
theorem yj_fJ {b : Bool} {np nq dn km tm sz bo rn : Nat} {C R C' R' : Nat → Nat → Int32} {CL RL : Nat → Nat → Int64} (h : yj_J b np nq dn km tm sz bo rn C R CL RL) (hC : yj_fC C C') (hR : yj_fR R R') : yj_J b np nq dn km tm sz bo rn C' R' CL RL := yj_Jf h (fun a j _ q => hC a j q) (fun a j q => hR a j (Or.inl q)) (fun _ _ _ _ => rfl) (fun _ => rfl)
theorem yj_fCoo (b : Bool) (C : Nat → Nat → Int32) (sz k : Nat) (x y z : Int32) : yj_fC C (m_X1_oddsOn b C sz k x y z) := fun a j q => z_ooO _ _ _ _ _ _ _ _ _ (by unfold yj_kC at q; omega) (by unfold yj_kC at q; omega)
theorem yj_fRoo (R : Nat → Nat → Int32) (x y z : Nat) : yj_fR R (m_X9_oddsOf R x y z) := fun a j q => z_ooF _ _ _ _ _ _ (by unfold yj_kR at q; omega) (by unfold yj_kR at q; omega)
theorem yj_fCst (C : Nat → Nat → Int32) (w l u : Nat) : yj_fC C (m_X3_settle C w l u) := fun a j q => z_stO _ _ _ _ _ _ (by unfold yj_kC at q; omega) (by unfold yj_kC at q; omega) (by unfold yj_kC at q; omega)
theorem yj_fRih (R : Nat → Nat → Int32) (x y z : Nat) (w : Int32) : yj_fR R (m_X9_isHeld R x y z w) := fun a j q => z_ihF _ _ _ _ _ _ _ (by unfold yj_kR at q; omega)
theorem yj_fCed (C : Nat → Nat → Int32) (np : Nat) : yj_fC C (m_X7_endDay C 19 np) := fun a j q => z_edF _ _ _ _ _ (by unfold yj_kC at q; omega) (by unfold yj_kC at q; omega) (by unfold yj_kC at q; omega) (by unfold yj_kC at q; omega)
theorem yj_fRed (R : Nat → Nat → Int32) (np : Nat) : yj_fR R (m_X9_endsDay R np) := fun a j q => yj_enF2 _ _ _ _ q
theorem yj_fCdr (C : Nat → Nat → Int32) : yj_fC C (m_X7_draw C 19) := fun a j q => z_drO _ _ _ _ (Or.inl (by unfold yj_kC at q; omega))
theorem yj_st3 (C : Nat → Nat → Int32) (w l u : Nat) : m_X3_settle C w l u 18 2 = C 18 2 + 1 ∧ m_X3_settle C w l u 18 3 = (C 18 3 ||| ((1 : Int32) <<< (nI l &&& 31))) ∧ (∀ j, m_X3_settle C w l u 25 j = if j = w then C 25 w + 1 else C 25 j) ∧ ∀ j, m_X3_settle C w l u 19 j = C 19 j := by
  unfold m_X3_settle
  refine ⟨?_, ?_, fun j => ?_, fun j => ?_⟩
  · rw [z_up_s, yj_setF _ _ _ _ _ _ _ (by omega)]
  · rw [z_up_j _ _ (by decide), z_up_s, yj_setF _ _ _ _ _ _ _ (by omega)]
  · rw [z_up_k _ _ (by decide), z_up_k _ _ (by decide)]
    by_cases e : j = w
    · rw [if_pos e, e, z_up_s, yj_setF _ _ _ _ _ _ _ (by omega)]
    · rw [if_neg e, z_up_j _ _ e, yj_setF _ _ _ _ _ _ _ (by omega)]
  · rw [z_up_k _ _ (by decide), z_up_k _ _ (by decide), z_up_k _ _ (by decide), yj_setF _ _ _ _ _ _ _ (by omega)]
theorem yj_stT {np : Nat} {C R : Nat → Nat → Int32} (T : yj_T np 19 C R) {a e u : Nat} (hd : a ≠ e ∧ a ≠ u ∧ e ≠ u) (w : Int32) : yj_T np 19 (m_X3_settle C (if w = 0 then e else a) (if w = 0 then a else e) u) (m_X9_isHeld R a e u w) := by
  have T2 := yj_settle T hd w
  refine yj_Tf T2 (fun x j q1 q2 => ?_) ?_ ?_ rfl rfl (fun _ _ => rfl) (fun _ _ _ _ => rfl)
  · unfold m_X3_settle; rw [z_up_k _ _ (by omega), z_up_k _ _ (by omega), z_up_k _ _ (by omega)]
  · unfold m_X3_settle; rw [z_up_k _ _ (by omega), z_up_k _ _ (by omega), z_up_k _ _ (by omega)]
  · unfold m_X3_settle; rw [z_up_k _ _ (by omega), z_up_k _ _ (by omega), z_up_k _ _ (by omega)]
/-- the next match of a card: none of both, or one, the same -/
theorem yj_next {np D m t : Nat} {C R : Nat → Nat → Int32} {CL RL : Nat → Nat → Int64} (T : yj_T np 19 C R) (hm : m ≤ 60) (hc : C (42 + 2 * D) 2 = nI m) (hr : R 76 D = nI m) (hv : ∀ j, j < 60 → CL (43 + 2 * D) j = RL 77 (60 * D + j) ∧ (RL 77 (60 * D + j)).toInt32.toInt64 = RL 77 (60 * D + j)) (ht : t < 8) : (f_X9_isNext R RL np D t = 0 ∧ (nI m < nI (3 * t) + 3 ∨ (¬ nI m < nI (3 * t) + 3 ∧ f_X7_canHold C 19 (f_X4_valueAt C CL (42 + 2 * D) (nI (3 * t))).toInt32 (f_X4_valueAt C CL (42 + 2 * D) (nI (3 * t) + 1)).toInt32 (f_X4_valueAt C CL (42 + 2 * D) (nI (3 * t) + 2)).toInt32 = 0))) ∨ (f_X9_isNext R RL np D t = 1 ∧ ¬ nI m < nI (3 * t) + 3 ∧ ¬ f_X7_canHold C 19 (f_X4_valueAt C CL (42 + 2 * D) (nI (3 * t))).toInt32 (f_X4_valueAt C CL (42 + 2 * D) (nI (3 * t) + 1)).toInt32 (f_X4_valueAt C CL (42 + 2 * D) (nI (3 * t) + 2)).toInt32 = 0 ∧ ∃ a e u, (a < np ∧ e < np ∧ u < np) ∧ (a ≠ e ∧ a ≠ u ∧ e ≠ u) ∧ ((f_X4_valueAt C CL (42 + 2 * D) (nI (3 * t))).toInt32 = nI a ∧ (f_X4_valueAt C CL (42 + 2 * D) (nI (3 * t) + 1)).toInt32 = nI e ∧ (f_X4_valueAt C CL (42 + 2 * D) (nI (3 * t) + 2)).toInt32 = nI u) ∧ f_X9_told RL D t 0 = nI a ∧ f_X9_told RL D t 1 = nI e ∧ f_X9_told RL D t 2 = nI u) := by
  have hn := T.1.2.2
  have a3 : nI (3 * t) + 3 = nI (3 * t + 3) := nI_add _ 3
  have b2 : (3 : Int32) * nI t + 2 = nI (3 * t + 2) := by
    show nI 3 * nI t + nI 2 = _
    rw [pk_mul, nI_add]
  have cond : nI m < nI (3 * t + 3) ↔ nI m ≤ nI (3 * t + 2) := by
    rw [nI_ltI (by omega) (by omega), nI_leI (by omega) (by omega)]; omega
  unfold f_X9_isNext
  rw [a3, hr, b2, if_neg (show ¬ 8 ≤ nI t by rw [show (8 : Int32) = nI 8 from rfl, nI_leI (by omega) (by omega)]; omega)]
  by_cases c : nI m ≤ nI (3 * t + 2)
  · rw [if_pos c]
    exact Or.inl ⟨rfl, Or.inl (cond.mpr c)⟩
  · rw [if_neg c]
    have c' : ¬ nI m < nI (3 * t + 3) := fun x => c (cond.mp x)
    have fit : 3 * t + 2 < m := by rw [nI_leI (by omega) (by omega)] at c; omega
    have a1 : nI (3 * t) + 1 = nI (3 * t + 1) := nI_1 _
    have a2 : nI (3 * t) + 2 = nI (3 * t + 2) := nI_add _ 2
    unfold f_X9_told
    rw [a1, a2, yj_valC (CL := CL) hm hc (show 3 * t < m by omega), yj_valC (CL := CL) hm hc (show 3 * t + 1 < m by omega), yj_valC (CL := CL) hm hc (show 3 * t + 2 < m by omega), (hv (3 * t) (by omega)).1, (hv (3 * t + 1) (by omega)).1, (hv (3 * t + 2) (by omega)).1, Nat.add_zero, show 60 * D + 3 * t + 1 = 60 * D + (3 * t + 1) by omega, show 60 * D + 3 * t + 2 = 60 * D + (3 * t + 2) by omega]
    have f0 := (hv (3 * t) (by omega)).2
    have f1 := (hv (3 * t + 1) (by omega)).2
    have f2 := (hv (3 * t + 2) (by omega)).2
    generalize RL 77 (60 * D + 3 * t) = x at f0 ⊢
    generalize RL 77 (60 * D + (3 * t + 1)) = y at f1 ⊢
    generalize RL 77 (60 * D + (3 * t + 2)) = z at f2 ⊢
    rw [yj_canHold T, f0, f1, f2]
    by_cases th : f_X9_areThree np x y z = 0
    · rw [if_pos th, if_pos th]
      exact Or.inl ⟨rfl, Or.inr ⟨c', rfl⟩⟩
    · rw [if_neg th, if_neg th]
      by_cases ch : f_X9_canBeHeld R x.toInt32.toNatClampNeg y.toInt32.toNatClampNeg z.toInt32.toNatClampNeg = 0
      · rw [if_pos ch]
        exact Or.inl ⟨rfl, Or.inr ⟨c', ch⟩⟩
      · rw [if_neg ch]
        rw [← f0, ← f1, ← f2] at th
        obtain ⟨a, e, u, h1, h2, x1, x2, x3⟩ := yj_three hn th
        exact Or.inr ⟨rfl, c', ch, a, e, u, h1, h2, ⟨x1, x2, x3⟩, x1, x2, x3⟩
/-- a card by odds -/
theorem yj_cardL {np sz D m : Nat} {b : Bool} {CL RL : Nat → Nat → Int64} (hm : m ≤ 60) (hv : ∀ j, j < 60 → CL (43 + 2 * D) j = RL 77 (60 * D + j) ∧ (RL 77 (60 * D + j)).toInt32.toInt64 = RL 77 (60 * D + j)) (lo : Prop) : ∀ (r t q : Nat) (C R : Nat → Nat → Int32), t + r = 8 → q < 1024 → yj_T np 19 C R → yj_L sz b C R → C (42 + 2 * D) 2 = nI m → R 76 D = nI m → (lo → C 18 3 = nI q) → ∃ n q', t ≤ n ∧ n ≤ 8 ∧ q' < 1024 ∧ (gx_X9_goesCard_4 RL np D (r + 1) t (nI q) R).1 = nI (16 * q' + n) ∧ yj_T np 19 (gx_X3_holdCard_3 b CL (42 + 2 * D) sz m 0 r t C) (gx_X9_goesCard_4 RL np D (r + 1) t (nI q) R).2 ∧ yj_fC C (gx_X3_holdCard_3 b CL (42 + 2 * D) sz m 0 r t C) ∧ yj_fR R (gx_X9_goesCard_4 RL np D (r + 1) t (nI q) R).2 ∧ gx_X3_holdCard_3 b CL (42 + 2 * D) sz m 0 r t C 18 2 = C 18 2 + nI (n - t) ∧ (lo → gx_X3_holdCard_3 b CL (42 + 2 * D) sz m 0 r t C 18 3 = nI q') := by
  have stop : ∀ (t q : Nat) (C R : Nat → Nat → Int32), t ≤ 8 → q < 1024 → yj_T np 19 C R → (lo → C 18 3 = nI q) → ∃ n q', t ≤ n ∧ n ≤ 8 ∧ q' < 1024 ∧ (16 * nI q + nI t) = nI (16 * q' + n) ∧ yj_T np 19 C R ∧ yj_fC C C ∧ yj_fR R R ∧ C 18 2 = C 18 2 + nI (n - t) ∧ (lo → C 18 3 = nI q') := by
    intro t q C R ht hq T hl
    refine ⟨t, q, Nat.le_refl _, ht, hq, ?_, T, yj_fCrf C, yj_fRrf R, ?_, hl⟩
    · show nI 16 * nI q + nI t = _
      rw [pk_mul, nI_add]
    · rw [Nat.sub_self, show nI 0 = 0 from rfl, Int32.add_zero]
  intro r
  induction r with
  | zero =>
    intro t q C R ht hq T Lw hc hr hl
    have t8 : t = 8 := by omega
    have nx : f_X9_isNext R RL np D t = 0 := by
      unfold f_X9_isNext
      rw [t8, if_pos (by decide)]
    unfold gx_X3_holdCard_3 gx_X9_goesCard_4
    rw [if_pos nx]
    exact stop t q C R (by omega) hq T hl
  | succ r ih =>
    intro t q C R ht hq T Lw hc hr hl
    have hn := T.1.2.2
    unfold gx_X3_holdCard_3
    rw [gx_X9_goesCard_4]
    rcases yj_next T hm hc hr hv (show t < 8 by omega) with ⟨nx, q1 | ⟨q1, q2⟩⟩ | ⟨nx, q1, q2, a, e, u, ⟨ha, he, hu⟩, hd, ⟨v0, v1, v2⟩, t0, t1, t2⟩
    · rw [if_pos nx, if_pos q1]
      exact stop t q C R (by omega) hq T hl
    · rw [if_pos nx, if_neg q1, if_pos q2]
      exact stop t q C R (by omega) hq T hl
    · rw [if_neg (by rw [nx]; decide), if_neg q1, if_neg q2, v0, v1, v2, t0, t1, t2, nI_clamp (by omega), nI_clamp (by omega), nI_clamp (by omega), yj_odds T Lw (Or.inr rfl) ha he hu hd, if_pos (show (0 : Int32) = 0 from rfl)]
      have T2 := yj_oddsT (b := b) (sz := sz) T (Or.inr rfl) 19 (nI a) (nI e) (nI u) a e u
      have go : ∀ w : Int32, ∃ n q', t ≤ n ∧ n ≤ 8 ∧ q' < 1024 ∧ (gx_X9_goesCard_4 RL np D (r + 1) (t + 1) (nI q ||| ((1 : Int32) <<< (nI (if w = 0 then a else e) &&& 31))) (m_X9_isHeld (m_X9_oddsOf R a e u) a e u w)).1 = nI (16 * q' + n) ∧ yj_T np 19 (gx_X3_holdCard_3 b CL (42 + 2 * D) sz m 0 r (t + 1) (m_X3_settle (m_X1_oddsOn b C sz 19 (nI a) (nI e) (nI u)) (if w = 0 then e else a) (if w = 0 then a else e) u)) (gx_X9_goesCard_4 RL np D (r + 1) (t + 1) (nI q ||| ((1 : Int32) <<< (nI (if w = 0 then a else e) &&& 31))) (m_X9_isHeld (m_X9_oddsOf R a e u) a e u w)).2 ∧ yj_fC C (gx_X3_holdCard_3 b CL (42 + 2 * D) sz m 0 r (t + 1) (m_X3_settle (m_X1_oddsOn b C sz 19 (nI a) (nI e) (nI u)) (if w = 0 then e else a) (if w = 0 then a else e) u)) ∧ yj_fR R (gx_X9_goesCard_4 RL np D (r + 1) (t + 1) (nI q ||| ((1 : Int32) <<< (nI (if w = 0 then a else e) &&& 31))) (m_X9_isHeld (m_X9_oddsOf R a e u) a e u w)).2 ∧ gx_X3_holdCard_3 b CL (42 + 2 * D) sz m 0 r (t + 1) (m_X3_settle (m_X1_oddsOn b C sz 19 (nI a) (nI e) (nI u)) (if w = 0 then e else a) (if w = 0 then a else e) u) 18 2 = C 18 2 + nI (n - t) ∧ (lo → gx_X3_holdCard_3 b CL (42 + 2 * D) sz m 0 r (t + 1) (m_X3_settle (m_X1_oddsOn b C sz 19 (nI a) (nI e) (nI u)) (if w = 0 then e else a) (if w = 0 then a else e) u) 18 3 = nI q') := by
        intro w
        have T3 := yj_stT T2 hd w
        have F1 := yj_fCtr (yj_fCoo b C sz 19 (nI a) (nI e) (nI u)) (yj_fCst (m_X1_oddsOn b C sz 19 (nI a) (nI e) (nI u)) (if w = 0 then e else a) (if w = 0 then a else e) u)
        have F2 := yj_fRtr (yj_fRoo R a e u) (yj_fRih (m_X9_oddsOf R a e u) a e u w)
        obtain ⟨s3, s4, -, -⟩ := yj_st3 (m_X1_oddsOn b C sz 19 (nI a) (nI e) (nI u)) (if w = 0 then e else a) (if w = 0 then a else e) u
        have hl10 : (if w = 0 then a else e) < 10 := by split <;> omega
        generalize (if w = 0 then a else e) = l at T3 F1 s3 s4 hl10 ⊢
        generalize (if w = 0 then e else a) = wn at T3 F1 s3 s4 ⊢
        rw [z_shl1 l (by omega)] at s4
        rw [z_shl1 l (by omega), fa_or]
        have o18 : ∀ j, m_X1_oddsOn b C sz 19 (nI a) (nI e) (nI u) 18 j = C 18 j := fun j => z_ooO _ _ _ _ _ _ _ _ _ (by omega) (by omega)
        rw [o18] at s3 s4
        have q' : q ||| 2 ^ l < 1024 := Nat.or_lt_two_pow (n := 10) hq (Nat.pow_lt_pow_right (by decide) hl10)
        obtain ⟨n, q2, g1, g2, g3, g4, g5, g6, g7, g8, g9⟩ := ih (t + 1) (q ||| 2 ^ l) _ _ (by omega) q' T3 (yj_fL Lw F1 F2) ((F1 _ _ (by unfold yj_kC; omega)).trans hc) ((F2 _ _ (Or.inl (by unfold yj_kR; omega))).trans hr) (fun x => by rw [s4, hl x, fa_or])
        refine ⟨n, q2, by omega, g2, g3, g4, g5, yj_fCtr F1 g6, yj_fRtr F2 g7, ?_, g9⟩
        rw [g8, s3, Int32.add_assoc, show (1 : Int32) = nI 1 from rfl, nI_add]
        congr 2
        omega
      by_cases lt : f_X9_oddsOf R a e u < 6
      · rw [if_pos lt, if_pos lt]
        exact go 0
      · rw [if_neg lt, if_neg lt]
        exact go 1
theorem yj_rem16 {q n : Nat} (hq : q < 1024) (hn : n ≤ 8) : nI (16 * q + n) - nI (16 * q + n) / 16 * 16 = nI n ∧ nI (16 * q + n) / 16 = nI q := by
  have e : (16 : Int32) = nI 16 := rfl
  rw [e, pk_rem (by omega) (by omega) (by omega), pk_div (by omega) (by omega) (by omega)]
  constructor
  · congr 1; omega
  · congr 1; omega
theorem yj_bgC (C : Nat → Nat → Int32) (np : Nat) : yj_fC C (m_X3_begin C np) := fun a j q => yq_bgF C np a j (by unfold yj_kC at q; unfold yq_o; omega)
theorem yj_bgR (R : Nat → Nat → Int32) (np : Nat) : yj_fR R (m_X9_begins R np) := fun a j q => yj_begF R np a j q
theorem yj_card0 {b : Bool} {np nq dn km tm sz bo rn D m : Nat} {C R : Nat → Nat → Int32} {CL RL : Nat → Nat → Int64} (h : yj_J b np nq dn km tm sz bo rn C R CL RL) (hm : m ≤ 60) (hc : C (42 + 2 * D) 2 = nI m) (hr : R 76 D = nI m) (hv : ∀ j, j < 60 → CL (43 + 2 * D) j = RL 77 (60 * D + j) ∧ (RL 77 (60 * D + j)).toInt32.toInt64 = RL 77 (60 * D + j)) : ∃ n q, n ≤ 8 ∧ q < 1024 ∧ f_X9_goesCard (m_X9_begins R np) RL np D = nI (16 * q + n) ∧ m_X3_holdCard b (m_X3_begin C np) CL (42 + 2 * D) sz m 0 18 2 = nI n ∧ m_X3_holdCard b (m_X3_begin C np) CL (42 + 2 * D) sz m 0 18 3 = nI q ∧ yj_fC C (m_X3_holdCard b (m_X3_begin C np) CL (42 + 2 * D) sz m 0) ∧ yj_fR R (m_X9_goesCard (m_X9_begins R np) RL np D) := by
  have F1 := yj_bgC C np
  have F2 := yj_bgR R np
  have z4 : m_X3_begin C np 18 3 = nI 0 := by rw [yj_bg18]; rfl
  have z3 : m_X3_begin C np 18 2 = 0 := by rw [yj_bg18]; rfl
  obtain ⟨n, q, -, g2, g3, g4, g5, g6, g7, g8, g9⟩ := yj_cardL (np := np) (sz := sz) (b := b) hm hv True 8 0 0 (m_X3_begin C np) (m_X9_begins R np) rfl (by omega) (yj_Y19 h.1) (yj_fL h.2.2.2.2.1 F1 F2) ((F1 _ _ (by unfold yj_kC; omega)).trans hc) ((F2 _ _ (Or.inl (by unfold yj_kR; omega))).trans hr) (fun _ => z4)
  refine ⟨n, q, g2, g3, g4, ?_, g9 trivial, yj_fCtr F1 g6, yj_fRtr F2 g7⟩
  have g8' : m_X3_holdCard b (m_X3_begin C np) CL (42 + 2 * D) sz m 0 18 2 = m_X3_begin C np 18 2 + nI (n - 0) := g8
  rw [g8', z3, Nat.sub_zero, Int32.zero_add]
theorem yj_s_held {b : Bool} {np nq dn km tm sz bo rn : Nat} {C R : Nat → Nat → Int32} {CL RL : Nat → Nat → Int64} (h : yj_J b np nq dn km tm sz bo rn C R CL RL) (d : Int32) : f_X8_held b C CL np sz d = f_X9_held R RL np d ∧ yj_B b (m_X8_held b C CL np sz d) (m_X9_held R RL np d) CL RL := by
  unfold f_X8_held f_X9_held m_X8_held m_X9_held
  rcases yj_bytes h d with ⟨e1, e2, -⟩ | ⟨e1, e2, -, D, m, hD, rfl, hm, cm, rm, hv⟩
  · have n0 : ¬ f_X8_bytesRefusal C d = 0 := fun q => by rw [← e1, q] at e2; exact absurd e2 (by decide)
    have n1 : ¬ 0 ≤ f_X9_rowIs R d 0 := Int32.not_le.mpr e2
    rw [if_neg n0, if_neg n0, if_neg n1, if_neg n1]; exact ⟨e1, yj_mk h⟩
  · have n1 : (0 : Int32) ≤ 1 := by decide
    rw [e1, e2, if_pos rfl, if_pos rfl, if_pos n1, if_pos n1, nI_clamp (by omega), cm, nI_clamp (by omega)]
    obtain ⟨n, q, hn, hq, k1, k2, k3, k4, k5⟩ := yj_card0 h hm cm rm hv
    rw [k1, k2, (yj_rem16 hq hn).1]
    exact ⟨rfl, yj_mk (yj_fJ h k4 k5)⟩
theorem yj_s_loses {b : Bool} {np nq dn km tm sz bo rn : Nat} {C R : Nat → Nat → Int32} {CL RL : Nat → Nat → Int64} (h : yj_J b np nq dn km tm sz bo rn C R CL RL) (d : Int32) : f_X8_loses b C CL np sz d = f_X9_loses R RL np d ∧ yj_B b (m_X8_loses b C CL np sz d) (m_X9_loses R RL np d) CL RL := by
  unfold f_X8_loses f_X9_loses m_X8_loses m_X9_loses
  rcases yj_bytes h d with ⟨e1, e2, -⟩ | ⟨e1, e2, -, D, m, hD, rfl, hm, cm, rm, hv⟩
  · have n0 : ¬ f_X8_bytesRefusal C d = 0 := fun q => by rw [← e1, q] at e2; exact absurd e2 (by decide)
    have n1 : ¬ 0 ≤ f_X9_rowIs R d 0 := Int32.not_le.mpr e2
    rw [if_neg n0, if_neg n0, if_neg n1, if_neg n1]; exact ⟨e1, yj_mk h⟩
  · have n1 : (0 : Int32) ≤ 1 := by decide
    rw [e1, e2, if_pos rfl, if_pos rfl, if_pos n1, if_pos n1, nI_clamp (by omega), cm, nI_clamp (by omega)]
    obtain ⟨n, q, hn, hq, k1, k2, k3, k4, k5⟩ := yj_card0 h hm cm rm hv
    rw [k1, k3, (yj_rem16 hq hn).2]
    exact ⟨rfl, yj_mk (yj_fJ h k4 k5)⟩
