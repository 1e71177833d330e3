/-! THE CLASS AGAINST THE REFERENCE: matches at once, both searches -/
theorem yj_gdS {np : Nat} {R : Nat → Nat → Int32} {S : Nat → Bool} (hs : yj_sb np R S) {w x : Nat} (h : yj_gd (yj_jg R) S w x) : (x / 100 < np ∧ x / 10 % 10 < np ∧ x % 10 < np) ∧ x < 1000 ∧ x / 100 < x / 10 % 10 := by
  obtain ⟨⟨m0, m1, m2, m3, m4, m5, m6, m7⟩, -⟩ := h
  exact ⟨⟨(yj_frT.mp (hs _ m4)).1, (yj_frT.mp (hs _ m5)).1, (yj_frT.mp (hs _ m6)).1⟩, m0, m1⟩
theorem yj_g27 {np : Nat} {C R : Nat → Nat → Int32} (T : yj_T np 1 C R) {V w : Nat} {S : Nat → Bool} (h : yj_bs V S) (hs : yj_sb np R S) (hw : w ≤ 3) {q3 q4 : Nat} (h3 : q3 < q4) (h4 : q4 < np) (kv : Int32) : ∀ (r t : Nat), t + r = np → yj_fs (yj_gd (yj_jg R) S w) (100 * q3 + 10 * q4 + t) (100 * q3 + 10 * q4 + 10) (gk_X7_firstAtOnce_27 C np (nI V) (nI w) q4 q3 kv r t) kv
  | 0, t, ht => by
    have h10 := T.1.2.2
    refine yj_fsN (fun y y1 y2 g => ?_)
    have := (yj_gdS hs g).1.2.2
    omega
  | r + 1, t, ht => by
    have h10 := T.1.2.2
    have IH := yj_g27 T h hs hw h3 h4 kv r (t + 1) (by omega)
    have F := yj_fit3 T h hs hw (a := q3) (e := q4) (u := t) (by omega) h4 (by omega) h3
    obtain ⟨e1, -, -⟩ := yj_W3E (a := q3) (e := q4) (u := t) (by omega) (by omega) (by omega)
    have no : ¬ yj_gd (yj_jg R) S w (100 * q3 + 10 * q4 + t) → yj_fs (yj_gd (yj_jg R) S w) (100 * q3 + 10 * q4 + t) (100 * q3 + 10 * q4 + 10) (gk_X7_firstAtOnce_27 C np (nI V) (nI w) q4 q3 kv r (t + 1)) kv := fun g =>
      yj_fsT (mid := 100 * q3 + 10 * q4 + (t + 1)) (by omega) (by omega) (yj_fsN (fun y y1 y2 => by
        have : y = 100 * q3 + 10 * q4 + t := by omega
        rw [this]; exact g)) IH
    unfold gk_X7_firstAtOnce_27
    rw [e1]
    by_cases c1 : nI (yj_W3 q3 q4 t) &&& (nI V ^^^ (-1)) = 0
    · rw [if_pos c1]
      by_cases c2 : f_X7_canHold C 1 (nI q3) (nI q4) (nI t) = 0
      · rw [if_pos c2]; exact no (fun g => (F.mpr g).2.1 c2)
      · rw [if_neg c2]
        by_cases c3 : f_X7_mostAtOnce C 1 np (nI V &&& (nI (yj_W3 q3 q4 t) ^^^ (-1))) < nI w - 1
        · rw [if_pos c3]; exact no (fun g => (F.mpr g).2.2 c3)
        · rw [if_neg c3]
          have g := F.mp ⟨c1, c2, c3⟩
          have e : 100 * nI q3 + 10 * nI q4 + nI t = nI (100 * q3 + 10 * q4 + t) := z_addE (z_addE (z_mulE rfl rfl) (z_mulE rfl rfl)) rfl
          rw [e]
          exact Or.inl ⟨_, Nat.le_refl _, by omega, g, rfl, fun y y1 y2 => absurd y2 (by omega)⟩
    · rw [if_neg c1]; exact no (fun g => c1 (F.mpr g).1)
theorem yj_g15 {np : Nat} {C R : Nat → Nat → Int32} (T : yj_T np 1 C R) {V w : Nat} {S : Nat → Bool} (h : yj_bs V S) (hs : yj_sb np R S) (hw : w ≤ 3) {q3 : Nat} (kv : Int32) : ∀ (r t : Nat), t + r = np → q3 < t → yj_fs (yj_gd (yj_jg R) S w) (100 * q3 + 10 * t) (100 * q3 + 100) (gk_X7_firstAtOnce_15 C np (nI V) (nI w) q3 kv r t) kv
  | 0, t, ht, h3 => by
    have h10 := T.1.2.2
    refine yj_fsN (fun y y1 y2 g => ?_)
    have := (yj_gdS hs g).1.2.1
    omega
  | r + 1, t, ht, h3 => by
    have h10 := T.1.2.2
    exact yj_fsT (mid := 100 * q3 + 10 * t + 10) (by omega) (by omega) (yj_g27 T h hs hw h3 (by omega) _ np 0 (by omega)) (yj_g15 T h hs hw kv r (t + 1) (by omega) (by omega))
theorem yj_g2 {np : Nat} {C R : Nat → Nat → Int32} (T : yj_T np 1 C R) {V w : Nat} {S : Nat → Bool} (h : yj_bs V S) (hs : yj_sb np R S) (hw : w ≤ 3) (kv : Int32) : ∀ (r t : Nat), t + r = np → yj_fs (yj_gd (yj_jg R) S w) (100 * t) 1000 (gk_X7_firstAtOnce_2 C np (nI V) (nI w) kv r t) kv
  | 0, t, ht => by
    have h10 := T.1.2.2
    refine yj_fsN (fun y y1 y2 g => ?_)
    have := (yj_gdS hs g).1.1
    omega
  | r + 1, t, ht => by
    have h10 := T.1.2.2
    refine yj_fsT (mid := 100 * t + 10 * (t + 1)) (by omega) (by omega) (kv := gk_X7_firstAtOnce_2 C np (nI V) (nI w) kv (r + 1) t) (yj_fsN (fun y y1 y2 g => ?_)) ?_
    · have := (yj_gdS hs g).2.2
      omega
    · exact yj_fsT (mid := 100 * t + 100) (by omega) (by omega) (yj_g15 T h hs hw _ (np - (t + 1)) (t + 1) (by omega) (by omega)) (yj_g2 T h hs hw kv r (t + 1) (by omega))
theorem yj_first {np : Nat} {C R : Nat → Nat → Int32} (T : yj_T np 1 C R) {V w x : Nat} {S : Nat → Bool} (h : yj_bs V S) (hs : yj_sb np R S) (hw : w ≤ 3) (hx : yj_ig (yj_jg R) S w x) : f_X7_firstAtOnce C np (nI V) (nI w) = nI x := by
  unfold f_X7_firstAtOnce
  have lt := hx.1.1.1
  rcases yj_g2 T h hs hw (-2) np 0 (by omega) with ⟨y, y1, y2, y3, y4, y5⟩ | ⟨y1, y2⟩
  · rw [y4]
    have a1 : ¬ y < x := fun q => hx.2 y q y3
    have a2 : ¬ x < y := fun q => y5 x (by omega) q hx.1
    rw [show y = x by omega]
  · exact absurd hx.1 (y1 x (by omega) lt)
theorem yj_c46 {np M : Nat} {C R : Nat → Nat → Int32} (T : yj_T np 1 C R) (hM : M ≤ 3) (em : f_X7_mostAtOnce C 1 np (f_X7_freeBits C 1 np) = nI M) : ∀ (r t V : Nat) (S : Nat → Bool) (l : List Nat) (v : Int32), t + r ≤ M → yj_bs V S → yj_sb np R S → yj_pa (yj_jg R) (M - t) S l → gx_X8_atOnce_46 C np r t (nI V) v = if r = 0 then v else nI (l.getD (r - 1) 0)
  | 0, t, V, S, l, v, ht, h, hs, hl => by
    rw [if_pos rfl]; rfl
  | r + 1, t, V, S, l, v, ht, h, hs, hl => by
    obtain ⟨k, hk⟩ : ∃ k, M - t = k + 1 := ⟨M - t - 1, by omega⟩
    rw [hk] at hl
    obtain ⟨x, l', rfl, g, hl'⟩ := hl
    have x0 := g.1.1.1
    have e1 := yj_first T h hs (w := k + 1) (by omega) g
    have e2 : nI M - nI t = nI (k + 1) := by rw [← hk]; exact (by decide +kernel : ∀ M : Nat, M < 4 → ∀ t : Nat, t < 4 → t ≤ M → nI M - nI t = nI (M - t)) M (by omega) t (by omega) (by omega)
    obtain ⟨⟨d1, d2⟩, d3⟩ := yj_dgS x x0
    obtain ⟨w1, -, -⟩ := yj_W3E (a := x / 100) (e := x / 10 % 10) (u := x % 10) (by omega) (by omega) (by omega)
    obtain ⟨Z, z1, z2⟩ := yj_bsR h x0
    have IH := yj_c46 T hM em r (t + 1) Z (yj_rm S x) l' (nI x) (by omega) z1 (yj_sbR hs x) (by rw [show M - (t + 1) = k by omega]; exact hl')
    unfold gx_X8_atOnce_46
    rw [em, if_neg (nI_ge (show t < M by omega) (by omega)), e2, e1, if_pos (nI_pos' (by omega)), d1, d2, d3, w1, z2, IH, if_neg (show ¬ r + 1 = 0 by omega)]
    cases r with
    | zero => rw [if_pos rfl]; rfl
    | succ r => rw [if_neg (by omega)]; rfl
/-- the reference's frame -/
def yj_oF (R0 R : Nat → Nat → Int32) : Prop := ∀ a j, a ≠ 65 → a ≠ 66 → (a ≠ 54 ∨ j ≠ 23) → R a j = R0 a j
/-- who's gone -/
def yj_gs (np : Nat) (R0 : Nat → Nat → Int32) (g : Nat) (S : Nat → Bool) : Prop := g < 1024 ∧ (∀ i, i < 10 → S i = (yj_fr np R0 i && !g.testBit i)) ∧ yj_sb np R0 S
theorem yj_gsR {np : Nat} {R0 : Nat → Nat → Int32} {g : Nat} {S : Nat → Bool} (h : yj_gs np R0 g S) {x : Nat} (hx : x < 1000) : ∃ z, ((nI g ||| ((1 : Int32) <<< (nI (x / 100) &&& 31))) ||| ((1 : Int32) <<< (nI (x / 10 % 10) &&& 31))) ||| ((1 : Int32) <<< (nI (x % 10) &&& 31)) = nI z ∧ yj_gs np R0 z (yj_rm S x) := by
  obtain ⟨h1, h2, h3⟩ := h
  have lt : ∀ i : Nat, i < 10 → (2 : Nat) ^ i < 2 ^ 10 := fun i hi => Nat.pow_lt_pow_right (by decide) hi
  refine ⟨g ||| 2 ^ (x / 100) ||| 2 ^ (x / 10 % 10) ||| 2 ^ (x % 10), by rw [z_shl1 (x / 100) (by omega), z_shl1 (x / 10 % 10) (by omega), z_shl1 (x % 10) (by omega), fa_or, fa_or, fa_or], Nat.or_lt_two_pow (n := 10) (Nat.or_lt_two_pow (n := 10) (Nat.or_lt_two_pow (n := 10) h1 (lt _ (by omega))) (lt _ (by omega))) (lt _ (by omega)), fun i hi => ?_, yj_sbR h3 x⟩
  rw [Bool.eq_iff_iff, yj_rmT, h2 i hi, Nat.testBit_or, Nat.testBit_or, Nat.testBit_or, Nat.testBit_two_pow, Nat.testBit_two_pow, Nat.testBit_two_pow, Bool.and_eq_true, Bool.and_eq_true, Bool.not_eq_true', Bool.not_eq_true', ← Bool.not_eq_true, ← Bool.not_eq_true, Bool.or_eq_true, Bool.or_eq_true, Bool.or_eq_true, decide_eq_true_iff, decide_eq_true_iff, decide_eq_true_iff]
  constructor
  · rintro ⟨⟨a1, a2⟩, b1, b2, b3⟩
    refine ⟨a1, fun q => ?_⟩
    rcases q with ((q | q) | q) | q
    · exact a2 q
    · exact b1 q.symm
    · exact b2 q.symm
    · exact b3 q.symm
  · rintro ⟨a1, q⟩
    exact ⟨⟨a1, fun z => q (Or.inl (Or.inl (Or.inl z)))⟩, fun z => q (Or.inl (Or.inl (Or.inr z.symm))), fun z => q (Or.inl (Or.inr z.symm)), fun z => q (Or.inr z.symm)⟩
/-- what the search does to the best -/
def yj_sp (J : Nat → Bool) (M n f q : Nat) (S : Nat → Bool) (R0 R R' : Nat → Nat → Int32) : Prop := yj_oF R0 R' ∧ (∀ i, i < n → R' 65 i = R 65 i) ∧ ∃ q', q ≤ q' ∧ q' ≤ M ∧ R' 54 23 = nI q' ∧ (q = M → ∀ i, R' 66 i = R 66 i) ∧ (q < M → n + yj_cap J S < M → q' < M) ∧ (q < M → n + yj_cap J S = M → ∀ l, yj_pa J (M - n) S l → (∀ x l', l = x :: l' → f ≤ x) → q' = M ∧ (∀ i, i < n → R' 66 i = R 65 i) ∧ ∀ i, i < M - n → R' 66 (n + i) = nI (l.getD i 0))
/-- of a search from f on -/
def yj_FS (np M n : Nat) (R0 : Nat → Nat → Int32) (F : Nat → Int32 → (Nat → Nat → Int32) → (Nat → Nat → Int32)) : Prop := ∀ (f g q : Nat) (R : Nat → Nat → Int32) (S : Nat → Bool), f ≤ 1000 → yj_oF R0 R → yj_gs np R0 g S → n + yj_cap (yj_jg R0) S ≤ M → q ≤ M → R 54 23 = nI q → yj_sp (yj_jg R0) M n f q S R0 R (F f (nI g) R)
