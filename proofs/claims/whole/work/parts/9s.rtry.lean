/-! THE CLASS AGAINST THE REFERENCE: the search for matches at once -/
/-- digits of a match -/
theorem yj_dgS : ∀ t : Nat, t < 1000 → (nI t / 100 = nI (t / 100) ∧ nI t / 10 - nI t / 10 / 10 * 10 = nI (t / 10 % 10)) ∧ nI t - nI t / 10 * 10 = nI (t % 10) := by decide +kernel
theorem yj_pcS : ∀ V : Nat, V < 1024 → f_J6_bitCount_0f7a4 (nI V) = nI (yj_cn (fun i => V.testBit i) 10) := by decide +kernel
theorem yj_cpS : ∀ W : Nat, W < 1024 → nI 1023 &&& (nI W ^^^ (-1)) = nI (1023 ^^^ W) := by decide +kernel
theorem yj_inS : ∀ V : Nat, V < 1024 → ∀ i : Nat, i < 10 → f_X9_isIn (nI V) (nI i) = if V.testBit i then 1 else 0 := by decide +kernel
theorem yj_1023 : ∀ i : Nat, i < 10 → (1023 : Nat).testBit i = true := by decide
theorem yj_V23 {V : Nat} (h : V < 1024) : V &&& 1023 = V := by
  rw [show 1023 = 2 ^ 10 - 1 from rfl, Nat.and_two_pow_sub_one_eq_mod]
  exact Nat.mod_eq_of_lt h
/-- all of V but W -/
theorem yj_but {V W : Nat} (hV : V < 1024) (hW : W < 1024) : ∃ Z, Z < 1024 ∧ nI V &&& (nI W ^^^ (-1)) = nI Z ∧ ∀ i, i < 10 → Z.testBit i = (V.testBit i && !W.testBit i) := by
  refine ⟨V &&& (1023 ^^^ W), Nat.lt_of_le_of_lt Nat.and_le_left hV, ?_, fun i hi => ?_⟩
  · rw [← fa_and, ← yj_cpS W hW, ← Int32.and_assoc, fa_and, yj_V23 hV]
  · rw [Nat.testBit_and, Nat.testBit_xor, yj_1023 i hi, Bool.true_xor]
def yj_W3 (a e u : Nat) : Nat := 2 ^ a ||| 2 ^ e ||| 2 ^ u
theorem yj_W3E {a e u : Nat} (ha : a < 10) (he : e < 10) (hu : u < 10) : (((1 : Int32) <<< (nI a &&& 31)) ||| ((1 : Int32) <<< (nI e &&& 31))) ||| ((1 : Int32) <<< (nI u &&& 31)) = nI (yj_W3 a e u) ∧ yj_W3 a e u < 1024 ∧ ∀ i, (yj_W3 a e u).testBit i = true ↔ (i = a ∨ i = e) ∨ i = u := by
  refine ⟨by rw [z_shl1 a (by omega), z_shl1 e (by omega), z_shl1 u (by omega), fa_or, fa_or]; rfl, Nat.or_lt_two_pow (n := 10) (Nat.or_lt_two_pow (n := 10) (Nat.pow_lt_pow_right (by decide) ha) (Nat.pow_lt_pow_right (by decide) he)) (Nat.pow_lt_pow_right (by decide) hu), fun i => ?_⟩
  unfold yj_W3
  rw [Nat.testBit_or, Nat.testBit_or, Nat.testBit_two_pow, Nat.testBit_two_pow, Nat.testBit_two_pow, Bool.or_eq_true, Bool.or_eq_true, decide_eq_true_iff, decide_eq_true_iff, decide_eq_true_iff]
  omega
/-- a set in bits -/
def yj_bs (V : Nat) (S : Nat → Bool) : Prop := V < 1024 ∧ ∀ i, i < 10 → V.testBit i = S i
theorem yj_bsR {V : Nat} {S : Nat → Bool} (h : yj_bs V S) {x : Nat} (hx : x < 1000) : ∃ Z, yj_bs Z (yj_rm S x) ∧ nI V &&& (nI (yj_W3 (x / 100) (x / 10 % 10) (x % 10)) ^^^ (-1)) = nI Z := by
  obtain ⟨-, w2, w3⟩ := yj_W3E (a := x / 100) (e := x / 10 % 10) (u := x % 10) (by omega) (by omega) (by omega)
  obtain ⟨Z, z1, z2, z3⟩ := yj_but h.1 w2
  refine ⟨Z, ⟨z1, fun i hi => ?_⟩, z2⟩
  rw [z3 i hi, h.2 i hi, Bool.eq_iff_iff, yj_rmT, Bool.and_eq_true, Bool.not_eq_true', ← Bool.not_eq_true, w3]
  constructor
  · rintro ⟨x1, x2⟩
    exact ⟨x1, fun q => x2 (Or.inl (Or.inl q)), fun q => x2 (Or.inl (Or.inr q)), fun q => x2 (Or.inr q)⟩
  · rintro ⟨x1, x2, x3, x4⟩
    exact ⟨x1, fun q => by rcases q with (q | q) | q; exact x2 q; exact x3 q; exact x4 q⟩
/-- who is free, who may judge, in the reference -/
def yj_fr (np : Nat) (R : Nat → Nat → Int32) (i : Nat) : Bool := decide (i < np) && decide (R 64 i - R 64 i / 2 * 2 = 0)
def yj_jg (R : Nat → Nat → Int32) (i : Nat) : Bool := decide (R 63 i - R 63 i / 2 * 2 = 1)
theorem yj_frT {np : Nat} {R : Nat → Nat → Int32} {i : Nat} : yj_fr np R i = true ↔ i < np ∧ R 64 i - R 64 i / 2 * 2 = 0 := by unfold yj_fr; rw [Bool.and_eq_true, decide_eq_true_iff, decide_eq_true_iff]
theorem yj_jgT {R : Nat → Nat → Int32} {i : Nat} : yj_jg R i = true ↔ R 63 i - R 63 i / 2 * 2 = 1 := by unfold yj_jg; rw [decide_eq_true_iff]
theorem yj_cbh {np : Nat} {R : Nat → Nat → Int32} {a e u : Nat} (ha : a < np) (he : e < np) (hu : u < np) : ¬ f_X9_canBeHeld R a e u = 0 ↔ yj_fr np R a = true ∧ yj_fr np R e = true ∧ yj_fr np R u = true ∧ yj_jg R u = true := by
  rw [yj_frT, yj_frT, yj_frT, yj_jgT]
  unfold f_X9_canBeHeld
  by_cases x1 : R 64 a - R 64 a / 2 * 2 = 0
  · by_cases x2 : R 64 e - R 64 e / 2 * 2 = 0
    · by_cases x3 : R 64 u - R 64 u / 2 * 2 = 0
      · by_cases x4 : R 63 u - R 63 u / 2 * 2 = 1
        · rw [if_pos x1, if_pos x2, if_pos x3, if_pos x4]
          exact ⟨fun _ => ⟨⟨ha, x1⟩, ⟨he, x2⟩, ⟨hu, x3⟩, x4⟩, fun _ => by decide⟩
        · rw [if_pos x1, if_pos x2, if_pos x3, if_neg x4]
          exact ⟨fun q => absurd rfl q, fun q => absurd q.2.2.2 x4⟩
      · rw [if_pos x1, if_pos x2, if_neg x3]
        exact ⟨fun q => absurd rfl q, fun q => absurd q.2.2.1.2 x3⟩
    · rw [if_pos x1, if_neg x2]
      exact ⟨fun q => absurd rfl q, fun q => absurd q.2.1.2 x2⟩
  · rw [if_neg x1]
    exact ⟨fun q => absurd rfl q, fun q => absurd q.1.2 x1⟩
/-- the class's bits -/
theorem yj_freeB {np : Nat} {C R : Nat → Nat → Int32} (T : yj_T np 1 C R) : ∀ n : Nat, n ≤ np → ∃ V, V < 2 ^ n ∧ g_X7_freeBits_4 C 1 n = nI V ∧ ∀ i, i < 10 → V.testBit i = (decide (i < n) && yj_fr np R i)
  | 0, _ => ⟨0, by decide, rfl, fun i _ => by simp⟩
  | n + 1, hn => by
    have h10 := T.1.2.2
    obtain ⟨V, v1, v2, v3⟩ := yj_freeB T n (by omega)
    show ∃ V, V < 2 ^ (n + 1) ∧ gb_X7_freeBits_4 C 1 n (g_X7_freeBits_4 C 1 n) = nI V ∧ _
    unfold gb_X7_freeBits_4 f_X7_isFree
    have g := T.2.1 n (by omega)
    rw [v2, show 1 + 4 = 5 from rfl, g.1.2.2.2]
    have p2 : (2 : Nat) ^ (n + 1) = 2 ^ n * 2 := Nat.pow_succ _ _
    rcases yj_odd (N := 3) (by decide) g.2.2.2 with ⟨a1, a2⟩ | ⟨a1, a2⟩
    · rw [a2, if_pos rfl, if_neg (by decide), z_shl1 n (by omega), fa_or]
      refine ⟨V ||| 2 ^ n, Nat.or_lt_two_pow (by omega) (by omega), rfl, fun i hi => ?_⟩
      rw [Nat.testBit_or, Nat.testBit_two_pow, v3 i hi, Bool.eq_iff_iff, Bool.or_eq_true, Bool.and_eq_true, Bool.and_eq_true, decide_eq_true_iff, decide_eq_true_iff, decide_eq_true_iff]
      constructor
      · rintro (⟨q1, q2⟩ | q)
        · exact ⟨by omega, q2⟩
        · subst q; exact ⟨by omega, yj_frT.mpr ⟨by omega, a1⟩⟩
      · rintro ⟨q1, q2⟩
        by_cases q : n = i
        · exact Or.inr q
        · exact Or.inl ⟨by omega, q2⟩
    · rw [a2, if_pos (show (if (1 : Int32) = 0 then (1 : Int32) else 0) = 0 by decide)]
      refine ⟨V, by omega, by show nI V ||| nI 0 = nI V; rw [fa_or, Nat.or_zero], fun i hi => ?_⟩
      rw [v3 i hi, Bool.eq_iff_iff, Bool.and_eq_true, Bool.and_eq_true, decide_eq_true_iff, decide_eq_true_iff]
      constructor
      · rintro ⟨q1, q2⟩; exact ⟨by omega, q2⟩
      · rintro ⟨q1, q2⟩
        by_cases q : i = n
        · subst q
          have := (yj_frT.mp q2).2
          rw [a1] at this
          exact absurd this (by decide)
        · exact ⟨by omega, q2⟩
theorem yj_judgB {np : Nat} {C R : Nat → Nat → Int32} (T : yj_T np 1 C R) : ∀ n : Nat, n ≤ np → ∃ V, V < 2 ^ n ∧ g_X7_judgeBits_4 C 1 n = nI V ∧ ∀ i, i < 10 → V.testBit i = (decide (i < n) && yj_jg R i)
  | 0, _ => ⟨0, by decide, rfl, fun i _ => by simp⟩
  | n + 1, hn => by
    have h10 := T.1.2.2
    obtain ⟨V, v1, v2, v3⟩ := yj_judgB T n (by omega)
    show ∃ V, V < 2 ^ (n + 1) ∧ gb_X7_judgeBits_4 C 1 n (g_X7_judgeBits_4 C 1 n) = nI V ∧ _
    unfold gb_X7_judgeBits_4 f_X7_mayJudge
    have g := T.2.1 n (by omega)
    rw [v2, show 1 + 3 = 4 from rfl, g.1.2.2.1]
    have p2 : (2 : Nat) ^ (n + 1) = 2 ^ n * 2 := Nat.pow_succ _ _
    rcases yj_odd (N := 255) (by decide) g.2.2.1 with ⟨a1, a2⟩ | ⟨a1, a2⟩
    · rw [a2, if_pos rfl, if_pos rfl]
      refine ⟨V, by omega, by show nI V ||| nI 0 = nI V; rw [fa_or, Nat.or_zero], fun i hi => ?_⟩
      rw [v3 i hi, Bool.eq_iff_iff, Bool.and_eq_true, Bool.and_eq_true, decide_eq_true_iff, decide_eq_true_iff]
      constructor
      · rintro ⟨q1, q2⟩; exact ⟨by omega, q2⟩
      · rintro ⟨q1, q2⟩
        by_cases q : i = n
        · subst q
          have := yj_jgT.mp q2
          rw [a1] at this
          exact absurd this (by decide)
        · exact ⟨by omega, q2⟩
    · rw [a2, if_neg (show ¬ (if (1 : Int32) = 0 then (0 : Int32) else 1) = 0 by decide), z_shl1 n (by omega), fa_or]
      refine ⟨V ||| 2 ^ n, Nat.or_lt_two_pow (by omega) (by omega), rfl, fun i hi => ?_⟩
      rw [Nat.testBit_or, Nat.testBit_two_pow, v3 i hi, Bool.eq_iff_iff, Bool.or_eq_true, Bool.and_eq_true, Bool.and_eq_true, decide_eq_true_iff, decide_eq_true_iff, decide_eq_true_iff]
      constructor
      · rintro (⟨q1, q2⟩ | q)
        · exact ⟨by omega, q2⟩
        · subst q; exact ⟨by omega, yj_jgT.mpr a1⟩
      · rintro ⟨q1, q2⟩
        by_cases q : n = i
        · exact Or.inr q
        · exact Or.inl ⟨by omega, q2⟩
/-- within the free -/
def yj_sb (np : Nat) (R : Nat → Nat → Int32) (S : Nat → Bool) : Prop := ∀ i, S i = true → yj_fr np R i = true
theorem yj_sbR {np : Nat} {R : Nat → Nat → Int32} {S : Nat → Bool} (h : yj_sb np R S) (x : Nat) : yj_sb np R (yj_rm S x) := fun i q => h i (yj_rmT.mp q).1
theorem yj_most {np : Nat} {C R : Nat → Nat → Int32} (T : yj_T np 1 C R) {V : Nat} {S : Nat → Bool} (h : yj_bs V S) (hs : yj_sb np R S) : f_X7_mostAtOnce C 1 np (nI V) = nI (yj_cap (yj_jg R) S) ∧ yj_cap (yj_jg R) S ≤ 3 := by
  have h10 := T.1.2.2
  obtain ⟨W, w1, w2, w3⟩ := yj_judgB T np (Nat.le_refl _)
  have p10 : 2 ^ np ≤ 1024 := Nat.pow_le_pow_right (n := 2) (by decide) h10
  have e1 : yj_cn (fun i => V.testBit i) 10 = yj_cn S 10 := yj_cnE (fun i hi => h.2 i hi)
  have e2 : yj_cn (fun i => (V &&& W).testBit i) 10 = yj_cn (yj_an S (yj_jg R)) 10 := yj_cnE (fun i hi => by
    rw [Nat.testBit_and, h.2 i hi, w3 i hi]
    unfold yj_an
    cases q : S i
    · rfl
    · rw [decide_eq_true (yj_frT.mp (hs i q)).1, Bool.true_and])
  have l1 := yj_cnL S 10
  have l2 := yj_cnL (yj_an S (yj_jg R)) 10
  unfold f_X7_mostAtOnce
  rw [show f_X7_judgeBits C 1 np = nI W from w2, fa_and, yj_pcS V h.1, yj_pcS (V &&& W) (Nat.lt_of_le_of_lt Nat.and_le_left h.1), e1, e2]
  have dv : nI (yj_cn S 10) / 3 = nI (yj_cn S 10 / 3) := (by decide +kernel : ∀ n : Nat, n < 11 → nI n / 3 = nI (n / 3)) _ (by omega)
  rw [dv]
  unfold yj_cap
  refine ⟨?_, by omega⟩
  by_cases q : yj_cn S 10 / 3 < yj_cn (yj_an S (yj_jg R)) 10
  · rw [if_pos (nI_lt q (by omega)), Nat.min_eq_right (by omega)]
  · rw [if_neg (nI_nlt (by omega) (by omega)), Nat.min_eq_left (by omega)]
/-- what a search leaves: the first good one of a stretch -/
def yj_fs (P : Nat → Prop) (lo hi : Nat) (res kv : Int32) : Prop := (∃ x, lo ≤ x ∧ x < hi ∧ P x ∧ res = nI x ∧ ∀ y, lo ≤ y → y < x → ¬ P y) ∨ ((∀ y, lo ≤ y → y < hi → ¬ P y) ∧ res = kv)
theorem yj_fsT {P : Nat → Prop} {lo mid hi : Nat} {res kv kv' : Int32} (h : lo ≤ mid) (h' : mid ≤ hi) (h1 : yj_fs P lo mid res kv) (h2 : yj_fs P mid hi kv kv') : yj_fs P lo hi res kv' := by
  rcases h1 with ⟨x, a1, a2, a3, a4, a5⟩ | ⟨a1, a2⟩
  · exact Or.inl ⟨x, a1, by omega, a3, a4, a5⟩
  · rcases h2 with ⟨x, b1, b2, b3, b4, b5⟩ | ⟨b1, b2⟩
    · refine Or.inl ⟨x, by omega, b2, b3, by rw [a2, b4], fun y y1 y2 => ?_⟩
      by_cases q : y < mid
      · exact a1 y y1 q
      · exact b5 y (by omega) y2
    · refine Or.inr ⟨fun y y1 y2 => ?_, by rw [a2, b2]⟩
      by_cases q : y < mid
      · exact a1 y y1 q
      · exact b1 y (by omega) y2
theorem yj_fsN {P : Nat → Prop} {lo hi : Nat} {kv : Int32} (h : ∀ y, lo ≤ y → y < hi → ¬ P y) : yj_fs P lo hi kv kv := Or.inr ⟨h, rfl⟩
theorem yj_fsY {P : Nat → Prop} {x : Nat} {kv : Int32} (h : P x) : yj_fs P x (x + 1) (nI x) kv := Or.inl ⟨x, Nat.le_refl _, Nat.lt_succ_self _, h, rfl, fun y y1 y2 => absurd y2 (by omega)⟩
/-- the class's test of one match -/
theorem yj_fit3 {np : Nat} {C R : Nat → Nat → Int32} (T : yj_T np 1 C R) {V w : Nat} {S : Nat → Bool} (h : yj_bs V S) (hs : yj_sb np R S) (hw : w ≤ 3) {a e u : Nat} (ha : a < np) (he : e < np) (hu : u < np) (hae : a < e) : (nI (yj_W3 a e u) &&& (nI V ^^^ (-1)) = 0 ∧ ¬ f_X7_canHold C 1 (nI a) (nI e) (nI u) = 0 ∧ ¬ f_X7_mostAtOnce C 1 np (nI V &&& (nI (yj_W3 a e u) ^^^ (-1))) < nI w - 1) ↔ yj_gd (yj_jg R) S w (100 * a + 10 * e + u) := by
  have h10 := T.1.2.2
  have x1 : (100 * a + 10 * e + u) / 100 = a := by omega
  have x2 : (100 * a + 10 * e + u) / 10 % 10 = e := by omega
  have x3 : (100 * a + 10 * e + u) % 10 = u := by omega
  obtain ⟨-, w2, w3⟩ := yj_W3E (a := a) (e := e) (u := u) (by omega) (by omega) (by omega)
  obtain ⟨Z, z1, z2⟩ := yj_bsR h (x := 100 * a + 10 * e + u) (by omega)
  rw [x1, x2, x3] at z2
  obtain ⟨Y, y1, y2, y3⟩ := yj_but w2 h.1
  obtain ⟨m1, m2⟩ := yj_most T z1 (yj_sbR hs _)
  rw [z2, m1, y2, yj_canHold T]
  have ca : (nI a).toNatClampNeg = a := nI_clamp (by omega)
  have ce : (nI e).toNatClampNeg = e := nI_clamp (by omega)
  have cu : (nI u).toNatClampNeg = u := nI_clamp (by omega)
  rw [ca, ce, cu]
  have k1 : nI Y = 0 ↔ S a = true ∧ S e = true ∧ S u = true := by
    constructor
    · intro q
      have y0 : Y = 0 := (nI_eq (b := 0) (by omega) (by omega)).mp q
      have key : ∀ i, i < 10 → (yj_W3 a e u).testBit i = true → S i = true := by
        intro i hi wi
        have g := y3 i hi
        rw [y0, Nat.zero_testBit, wi, h.2 i hi] at g
        cases r : S i
        · rw [r] at g; exact absurd g (by decide)
        · rfl
      exact ⟨key a (by omega) ((w3 a).mpr (Or.inl (Or.inl rfl))), key e (by omega) ((w3 e).mpr (Or.inl (Or.inr rfl))), key u (by omega) ((w3 u).mpr (Or.inr rfl))⟩
    · rintro ⟨s1, s2, s3⟩
      have : Y = 0 := by
        apply Nat.eq_of_testBit_eq
        intro i
        rw [Nat.zero_testBit]
        by_cases hi : i < 10
        · rw [y3 i hi, h.2 i hi]
          cases r : (yj_W3 a e u).testBit i
          · rfl
          · rcases (w3 i).mp r with (g | g) | g <;> rw [g]
            · rw [s1]; rfl
            · rw [s2]; rfl
            · rw [s3]; rfl
        · exact Nat.testBit_lt_two_pow (Nat.lt_of_lt_of_le y1 (Nat.pow_le_pow_right (n := 2) (by decide) (show 10 ≤ i by omega)))
      rw [this]; rfl
  have k3 : ¬ nI (yj_cap (yj_jg R) (yj_rm S (100 * a + 10 * e + u))) < nI w - 1 ↔ w ≤ yj_cap (yj_jg R) (yj_rm S (100 * a + 10 * e + u)) + 1 := by
    generalize yj_cap (yj_jg R) (yj_rm S (100 * a + 10 * e + u)) = c at m2 ⊢
    exact (by decide +kernel : ∀ c : Nat, c < 4 → ∀ w : Nat, w < 4 → (¬ nI c < nI w - 1 ↔ w ≤ c + 1)) c (by omega) w (by omega)
  rw [k1, k3]
  unfold yj_gd yj_mat
  rw [x1, x2, x3]
  by_cases dist : u ≠ a ∧ u ≠ e
  · rw [yj_threeN h10 ha he hu (by omega) (fun q => dist.1 q.symm) (fun q => dist.2 q.symm), if_neg (show ¬ (1 : Int32) = 0 by decide), yj_cbh ha he hu]
    constructor
    · rintro ⟨⟨s1, s2, s3⟩, ⟨-, -, -, j⟩, c⟩
      exact ⟨⟨by omega, hae, dist.1, dist.2, s1, s2, s3, j⟩, c⟩
    · rintro ⟨⟨-, -, -, -, s1, s2, s3, j⟩, c⟩
      exact ⟨⟨s1, s2, s3⟩, ⟨hs _ s1, hs _ s2, hs _ s3, j⟩, c⟩
  · constructor
    · rintro ⟨-, q, -⟩
      by_cases g : f_X9_areThree np (nI a).toInt64 (nI e).toInt64 (nI u).toInt64 = 0
      · rw [if_pos g] at q; exact absurd rfl q
      · obtain ⟨a', e', u', ⟨r1, r2, r3⟩, ⟨-, d2, d3⟩, i1, i2, i3⟩ := yj_three h10 g
        exfalso
        refine dist ⟨fun z => d2 ?_, fun z => d3 ?_⟩
        · exact (nI_eq (a := a') (b := u') (by omega) (by omega)).mp (i1.symm.trans (by rw [← z]; exact i3))
        · exact (nI_eq (a := e') (b := u') (by omega) (by omega)).mp (i2.symm.trans (by rw [← z]; exact i3))
    · rintro ⟨⟨-, -, d1, d2, -⟩, -⟩
      exact absurd ⟨d1, d2⟩ dist
