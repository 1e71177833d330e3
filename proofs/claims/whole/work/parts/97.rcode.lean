/-! THE CLASS AGAINST THE REFERENCE: the law's code, gone through over a list -/
def yj_nm (nm : Nat → Int32) (c : Int32) : Int32 := if c = 97 then nm 0 else if c = 98 then nm 1 else if c = 103 then nm 2 else if c = 108 then nm 3 else if c = 109 then nm 4 else nm 5
def yj_psh (v : Int32) (st : List Int32) : List Int32 := if st.length < 121 then v :: st else st
def yj_jn (s : Int32) (st : List Int32) : List Int32 := if s = 33 then (if st.headD 0 = 0 then yj_psh 1 st.tail else yj_psh 0 st.tail) else if s = 95 then yj_psh (-(st.headD 0)) st.tail else yj_psh (f_X1_joined s (st.tail.headD 0) (st.headD 0)) st.tail.tail
/-- what the code gives: r entries left, the next one at t, whether the line is passed over, the stack -/
def yj_ev (cd : Nat → Int32) (nm : Nat → Int32) : Nat → Nat → Int32 → List Int32 → Int32
  | 0, _, _, _ => 0
  | r + 1, t, p, st => if p = 0 then if cd t < 0 then if cd t = (-63) then if st.headD 0 = 0 then yj_ev cd nm r (t + 1) 1 st.tail else yj_ev cd nm r (t + 1) 0 st.tail else if cd t = (-59) then st.headD 0 else if f_X1_isName (-(cd t)) = 0 then yj_ev cd nm r (t + 1) p (yj_jn (-(cd t)) st) else yj_ev cd nm r (t + 1) p (yj_psh (yj_nm nm (-(cd t))) st) else yj_ev cd nm r (t + 1) p (yj_psh (cd t) st) else if cd t = (-59) then yj_ev cd nm r (t + 1) 0 st else yj_ev cd nm r (t + 1) 1 st
/-- the stack's cells hold the list -/
def yj_St (I : Nat → Nat → Int32) (st : List Int32) : Prop := I 13 8 = nI st.length ∧ st.length ≤ 121 ∧ ∀ j, j < st.length → I 17 j = st.getD (st.length - 1 - j) 0
theorem yj_Stn {I : Nat → Nat → Int32} {st : List Int32} (h : yj_St I st) : (I 13 8).toNatClampNeg = st.length := by rw [h.1, nI_clamp (by have := h.2.1; omega)]
theorem yj_push {I : Nat → Nat → Int32} {st : List Int32} (h : yj_St I st) (v : Int32) : yj_St (m_X1_push I (I 13 8).toNatClampNeg v) (yj_psh v st) := by
  have hb := h.2.1
  rw [yj_Stn h]
  unfold m_X1_push yj_psh
  by_cases q : st.length < 121
  · rw [if_neg (by rw [show (121 : Int32) = nI 121 from rfl, nI_leI (by omega) (by omega)]; omega), if_pos q]
    refine ⟨?_, by rw [List.length_cons]; omega, fun j hj => ?_⟩
    · rw [z_up_k _ _ (by decide), z_up_s, List.length_cons, nI_succ]
    · rw [List.length_cons] at hj ⊢
      by_cases e : j = st.length
      · subst e
        rw [z_up_s, show st.length + 1 - 1 - st.length = 0 by omega]
        rfl
      · rw [z_up_j _ _ e, z_up_k _ _ (by decide), h.2.2 j (by omega), show st.length + 1 - 1 - j = (st.length - 1 - j) + 1 by omega]
        rfl
  · rw [if_pos (by rw [show (121 : Int32) = nI 121 from rfl, nI_leI (by omega) (by omega)]; omega), if_neg q]
    exact h
theorem yj_top {I : Nat → Nat → Int32} {st : List Int32} (h : yj_St I st) : f_X1_pop I (I 13 8).toNatClampNeg = st.headD 0 := by
  have hb := h.2.1
  rw [yj_Stn h]
  unfold f_X1_pop
  cases st with
  | nil => rw [if_pos (by decide)]; rfl
  | cons v st =>
    rw [List.length_cons] at hb
    rw [List.length_cons, if_neg (nI_nle (by omega) (by omega)), h.2.2 _ (by rw [List.length_cons]; omega), List.length_cons, show st.length + 1 - 1 - (st.length + 1 - 1) = 0 by omega]
    rfl
theorem yj_pop {I : Nat → Nat → Int32} {st : List Int32} (h : yj_St I st) : yj_St (m_X1_pop I (I 13 8).toNatClampNeg) st.tail := by
  have hb := h.2.1
  rw [yj_Stn h]
  unfold m_X1_pop
  cases st with
  | nil => rw [if_pos (by decide)]; exact h
  | cons v st =>
    rw [List.length_cons] at hb
    rw [List.length_cons, if_neg (nI_nle (by omega) (by omega))]
    refine ⟨?_, by rw [List.tail_cons]; omega, fun j hj => ?_⟩
    · rw [z_up_s, List.tail_cons, Nat.add_sub_cancel]
    · rw [List.tail_cons] at hj ⊢
      rw [z_up_k _ _ (by decide), h.2.2 j (by rw [List.length_cons]; omega), List.length_cons, show st.length + 1 - 1 - j = (st.length - 1 - j) + 1 by omega]
      rfl
theorem yj_join {I : Nat → Nat → Int32} {st : List Int32} (h : yj_St I st) (s : Int32) : yj_St (m_X1_join I s) (yj_jn s st) := by
  have h1 := yj_pop h
  have t1 := yj_top h
  have t2 := yj_top h1
  have h2 := yj_pop h1
  unfold m_X1_join yj_jn
  by_cases q : s = 33
  · rw [if_pos q, if_pos q, t1]
    by_cases z : st.headD 0 = 0
    · rw [if_pos z, if_pos z]; exact yj_push h1 1
    · rw [if_neg z, if_neg z]; exact yj_push h1 0
  · rw [if_neg q, if_neg q]
    by_cases q2 : s = 95
    · rw [if_pos q2, if_pos q2, t1]; exact yj_push h1 _
    · rw [if_neg q2, if_neg q2, t1, t2]; exact yj_push h2 _
/-- the six names as the class has them -/
def yj_nC (I : Nat → Nat → Int32) (k one other umpire : Nat) : Nat → Int32
  | 0 => I (k + 1) one
  | 1 => I (k + 1) other
  | 2 => I (k + 2) umpire
  | 3 => f_J6_bitCount_0f7a4 (I (k + 3) umpire)
  | 4 => f_J6_bitCount_0f7a4 (I (k + 3) one)
  | _ => I k 5
theorem yj_named (I : Nat → Nat → Int32) (k : Nat) (c : Int32) (one other umpire : Nat) : f_X1_named I k c one other umpire = yj_nm (yj_nC I k one other umpire) c := by
  unfold f_X1_named yj_nm
  by_cases h0 : c = 97
  · rw [if_pos h0, if_pos h0]; rfl
  · rw [if_neg h0, if_neg h0]
    by_cases h1 : c = 98
    · rw [if_pos h1, if_pos h1]; rfl
    · rw [if_neg h1, if_neg h1]
      by_cases h2 : c = 103
      · subst h2
        rw [if_neg (by decide), if_neg (by decide), if_neg (by decide), if_neg (by decide), if_pos rfl, if_pos rfl]; rfl
      · rw [if_neg h2, if_neg h2]
        by_cases h3 : c = 108
        · subst h3
          rw [if_neg (by decide), if_neg (by decide), if_neg (by decide), if_neg (by decide), if_neg (by decide), if_neg (by decide), if_neg (by decide), if_neg (by decide), if_pos rfl, if_pos rfl]; rfl
        · rw [if_neg h3, if_neg h3]
          by_cases h4 : c = 109
          · subst h4
            rw [if_neg (by decide), if_neg (by decide), if_neg (by decide), if_neg (by decide), if_neg (by decide), if_neg (by decide), if_neg (by decide), if_neg (by decide), if_pos rfl, if_pos rfl]; rfl
          · rw [if_neg h4, if_neg h4]
            show (if c = 99 then _ else _) = I k 5
            (repeat' split) <;> rfl
theorem yj_nCF {I J : Nat → Nat → Int32} (h : z_Fr I J) {k : Nat} (hk : k = 1 ∨ 19 ≤ k) (one other umpire : Nat) : yj_nC J k one other umpire = yj_nC I k one other umpire := by
  have g : ∀ a j, a = k ∨ a = k + 1 ∨ a = k + 2 ∨ a = k + 3 → J a j = I a j := fun a j q => h a j (by omega) (Or.inl (by omega))
  funext i
  match i with
  | 0 => exact g _ _ (by omega)
  | 1 => exact g _ _ (by omega)
  | 2 => exact g _ _ (by omega)
  | 3 => exact congrArg f_J6_bitCount_0f7a4 (g (k + 3) umpire (by omega))
  | 4 => exact congrArg f_J6_bitCount_0f7a4 (g (k + 3) one (by omega))
  | n + 5 => exact g _ _ (by omega)
theorem yj_cdF {I J : Nat → Nat → Int32} (h : z_Fr I J) (b : Bool) : J (z_cd b) = I (z_cd b) := by
  funext j
  refine h _ _ ?_ (Or.inl ?_) <;> cases b <;> decide
theorem yj_evS (b : Bool) (k one other umpire : Nat) (hk : k = 1 ∨ 19 ≤ k) : ∀ (r t : Nat) (v : Int32) (I : Nat → Nat → Int32) (st : List Int32), yj_St I st → (gx_X1_byText_11 b k one other umpire r t v I).1 = yj_ev (I (z_cd b)) (yj_nC I k one other umpire) r t v st
  | 0, t, v, I, st, _ => rfl
  | r + 1, t, v, I, st, h => by
    have go : ∀ (J : Nat → Nat → Int32) (v2 : Int32) (s2 : List Int32), z_Fr I J → yj_St J s2 → (gx_X1_byText_11 b k one other umpire r (t + 1) v2 J).1 = yj_ev (I (z_cd b)) (yj_nC I k one other umpire) r (t + 1) v2 s2 := by
      intro J v2 s2 hF hS
      rw [yj_evS b k one other umpire hk r (t + 1) v2 J s2 hS, yj_cdF hF, yj_nCF hF hk]
    unfold gx_X1_byText_11 yj_ev
    by_cases p : v = 0
    · rw [if_pos p, if_pos p]
      by_cases n : I (z_cd b) t < 0
      · rw [if_pos n, if_pos n]
        by_cases q : I (z_cd b) t = (-63)
        · rw [if_pos q, if_pos q, yj_top h]
          by_cases z : st.headD 0 = 0
          · rw [if_pos z, if_pos z]; exact go _ _ _ (z_Fr_pop _ _) (yj_pop h)
          · rw [if_neg z, if_neg z]; exact go _ _ _ (z_Fr_pop _ _) (yj_pop h)
        · rw [if_neg q, if_neg q]
          by_cases q2 : I (z_cd b) t = (-59)
          · rw [if_pos q2, if_pos q2]; exact yj_top h
          · rw [if_neg q2, if_neg q2]
            by_cases q3 : f_X1_isName (-(I (z_cd b) t)) = 0
            · rw [if_pos q3, if_pos q3]; exact go _ _ _ (z_Fr_join _ _) (yj_join h _)
            · rw [if_neg q3, if_neg q3, yj_named]; exact go _ _ _ (z_Fr_push _ _ _) (yj_push h _)
      · rw [if_neg n, if_neg n]; exact go _ _ _ (z_Fr_push _ _ _) (yj_push h _)
    · rw [if_neg p, if_neg p]
      by_cases q2 : I (z_cd b) t = (-59)
      · rw [if_pos q2, if_pos q2]; exact go _ _ _ (z_Fr_rf _) h
      · rw [if_neg q2, if_neg q2]; exact go _ _ _ (z_Fr_rf _) h
theorem yj_byText (b : Bool) (I : Nat → Nat → Int32) (sz k one other umpire : Nat) (hk : k = 1 ∨ 19 ≤ k) : f_X1_byText b I sz k one other umpire = yj_ev (I (z_cd b)) (yj_nC I k one other umpire) sz 0 0 [] := by
  unfold f_X1_byText
  rw [yj_evS b k one other umpire hk sz 0 0 (z_up I 13 8 0) [] ⟨by rw [z_up_s]; rfl, Nat.zero_le _, fun j h => absurd h (Nat.not_lt_zero _)⟩, yj_cdF (z_Fr_13 I 0), yj_nCF (z_Fr_13 I 0) hk]
theorem yj_nmE {n1 n2 : Nat → Int32} (h : ∀ i, i < 6 → n1 i = n2 i) (c : Int32) : yj_nm n1 c = yj_nm n2 c := by
  unfold yj_nm
  rw [h 0 (by omega), h 1 (by omega), h 2 (by omega), h 3 (by omega), h 4 (by omega), h 5 (by omega)]
theorem yj_evE {n1 n2 : Nat → Int32} (cd : Nat → Int32) (h : ∀ i, i < 6 → n1 i = n2 i) : ∀ (r t : Nat) (v : Int32) (st : List Int32), yj_ev cd n1 r t v st = yj_ev cd n2 r t v st
  | 0, _, _, _ => rfl
  | r + 1, t, v, st => by
    unfold yj_ev
    rw [yj_nmE h, yj_evE cd h r, yj_evE cd h r, yj_evE cd h r, yj_evE cd h r, yj_evE cd h r, yj_evE cd h r, yj_evE cd h r]
/-- the law: the class's code and the reference's text give the same, whatever the names are -/
def yj_L (sz : Nat) (b : Bool) (C R : Nat → Nat → Int32) : Prop := (C 13 4 = nI sz ∧ sz ≤ 121) ∧ ((sz = 0 ∧ R 54 10 < 0) ∨ (0 < sz ∧ ∃ tl : Nat, (R 54 10 = nI tl ∧ tl ≤ 120) ∧ ∀ J : Nat → Nat → Int32, (∀ j, j < tl → J 60 j = R 60 j) → f_X9_workOut J 0 tl = yj_ev (C (z_cd b)) (J 61) sz 0 0 []))
theorem yj_Lf {sz : Nat} {b : Bool} {C R C' R' : Nat → Nat → Int32} (h : yj_L sz b C R) (h1 : C' 13 4 = C 13 4) (h2 : C' (z_cd b) = C (z_cd b)) (h3 : R' 54 10 = R 54 10) (h4 : R' 60 = R 60) : yj_L sz b C' R' := by
  unfold yj_L
  rw [h1, h2, h3, h4]
  exact h
theorem yj_clamp (X : Int32) : (if 0 < (if X < 12 then X else 12) then (if X < 12 then X else 12) else 0) = (if 0 ≤ X then if X ≤ 12 then X else 12 else 0) := by
  have z : (0 : Int32).toInt = 0 := rfl
  have t : (12 : Int32).toInt = 12 := rfl
  by_cases h : X < 12
  · rw [if_pos h]
    have h' := h
    rw [Int32.lt_iff_toInt_lt, t] at h'
    rw [if_pos (show X ≤ 12 by rw [Int32.le_iff_toInt_le, t]; omega)]
    by_cases g : 0 < X
    · rw [if_pos g, if_pos (by rw [Int32.lt_iff_toInt_lt, z] at g; rw [Int32.le_iff_toInt_le, z]; omega)]
    · rw [if_neg g]
      by_cases g2 : 0 ≤ X
      · rw [if_pos g2]
        rw [Int32.lt_iff_toInt_lt, z] at g
        rw [Int32.le_iff_toInt_le, z] at g2
        exact (Int32.toInt_inj.mp (by rw [z]; omega)).symm
      · rw [if_neg g2]
  · rw [if_neg h, if_pos (by decide)]
    rw [Int32.lt_iff_toInt_lt, t] at h
    rw [if_pos (show 0 ≤ X by rw [Int32.le_iff_toInt_le, z]; omega)]
    by_cases g : X ≤ 12
    · rw [if_pos g]
      rw [Int32.le_iff_toInt_le, t] at g
      exact (Int32.toInt_inj.mp (by rw [t]; omega))
    · rw [if_neg g]
/-- the odds -/
theorem yj_oddsG {np sz k : Nat} {b : Bool} {C R : Nat → Nat → Int32} (T : yj_T np k C R) (Lw : yj_L sz b C R) (hk : k = 1 ∨ 19 ≤ k) {a e u : Nat} (ha : a < np) (he : e < np) (hu : u < np) (hd : a ≠ e ∧ a ≠ u ∧ e ≠ u) : f_X1_oddsOn b C sz k (nI a) (nI e) (nI u) = f_X9_oddsOf R a e u := by
  have hn := T.1.2.2
  have A := (T.2.1 a ha)
  have E := (T.2.1 e he)
  have U := (T.2.1 u hu)
  have ca : (nI a).toNatClampNeg = a := nI_clamp (by omega)
  have ce : (nI e).toNatClampNeg = e := nI_clamp (by omega)
  have cu : (nI u).toNatClampNeg = u := nI_clamp (by omega)
  unfold f_X1_oddsOn f_X9_oddsOf
  rw [yj_unlike hn T.1.1, yj_threeN hn ha he hu hd.1 hd.2.1 hd.2.2, if_neg (by decide), ca, ce, cu, yj_clamp, yj_clamp]
  rcases Lw.2 with ⟨hz, ht⟩ | ⟨hz, tl, ht, hw⟩
  · rw [if_pos (by rw [hz]; rfl), if_pos ht]
    unfold f_X1_withoutText
    rw [A.1.1, E.1.1, U.1.2.1, A.1.2.2.1, yj_bits A.2.2.1]
  · have h0 : sz ≤ 121 := Lw.1.2
    rw [if_neg (nI_ne0 hz (by omega)), if_neg (show ¬ R 54 10 < 0 by rw [ht.1]; exact nI_pos (by omega)), ht.1, nI_clamp (by omega), yj_byText b C sz k a e u hk]
    rw [hw _ (fun j _ => by simp only [z_up_k _ _ (show (60 : Nat) ≠ 61 by decide)])]
    rw [yj_evE (n1 := yj_nC C k a e u) (n2 := (z_up (z_up (z_up (z_up (z_up (z_up R 61 0 (R 55 a)) 61 1 (R 55 e)) 61 2 (R 62 u)) 61 3 (f_X9_bitsOf (R 63 u))) 61 4 (f_X9_bitsOf (R 63 a))) 61 5 (R 54 20)) 61) (C (z_cd b)) (fun i hi => ?_)]
    match i, hi with
    | 0, _ => simp only [z_up, yj_nC, A.1.1]; rfl
    | 1, _ => simp only [z_up, yj_nC, E.1.1]; rfl
    | 2, _ => simp only [z_up, yj_nC, U.1.2.1]; rfl
    | 3, _ => simp only [z_up, yj_nC, U.1.2.2.1, yj_bits U.2.2.1]; rfl
    | 4, _ => simp only [z_up, yj_nC, A.1.2.2.1, yj_bits A.2.2.1]; rfl
    | 5, _ => simp only [z_up, yj_nC, T.2.2.1]; rfl
theorem yj_odds {np sz k : Nat} {b : Bool} {C R : Nat → Nat → Int32} (T : yj_T np k C R) (Lw : yj_L sz b C R) (hk : k = 1 ∨ k = 19) {a e u : Nat} (ha : a < np) (he : e < np) (hu : u < np) (hd : a ≠ e ∧ a ≠ u ∧ e ≠ u) : f_X1_oddsOn b C sz k (nI a) (nI e) (nI u) = f_X9_oddsOf R a e u := yj_oddsG T Lw (by omega) ha he hu hd
/-- the odds leave the yards as they are -/
theorem yj_oddsT {np sz k : Nat} {b : Bool} {C R : Nat → Nat → Int32} (T : yj_T np k C R) (hk : k = 1 ∨ k = 19) (k2 : Nat) (x y z : Int32) (a e u : Nat) : yj_T np k (m_X1_oddsOn b C sz k2 x y z) (m_X9_oddsOf R a e u) := by
  have c : ∀ p j, p ≠ 13 → p ≠ 17 → m_X1_oddsOn b C sz k2 x y z p j = C p j := fun p j h1 h2 => z_ooO b C sz k2 x y z p j h2 (Or.inl h1)
  have r : ∀ p j, p ≠ 54 → p ≠ 61 → m_X9_oddsOf R a e u p j = R p j := fun p j h1 h2 => z_ooF R a e u p j (Or.inl h1) h2
  have r4 : ∀ j, j = 6 ∨ j = 20 → m_X9_oddsOf R a e u 54 j = R 54 j := fun j h => z_ooF R a e u 54 j (Or.inr (by omega)) (by decide)
  unfold yj_T
  rw [r4 6 (by omega), r4 20 (by omega), c k 0 (by omega) (by omega), c k 5 (by omega) (by omega)]
  refine ⟨T.1, fun j hj => ?_, T.2.2⟩
  rw [c _ _ (by omega) (by omega), c _ _ (by omega) (by omega), c _ _ (by omega) (by omega), c _ _ (by omega) (by omega), r 55 j (by decide) (by decide), r 62 j (by decide) (by decide), r 63 j (by decide) (by decide), r 64 j (by decide) (by decide)]
  exact T.2.1 j hj
theorem yj_oddsL {sz s2 : Nat} {b b2 : Bool} {C R : Nat → Nat → Int32} (h : yj_L sz b C R) (k2 : Nat) (x y z : Int32) (a e u : Nat) : yj_L sz b (m_X1_oddsOn b2 C s2 k2 x y z) (m_X9_oddsOf R a e u) := by
  refine yj_Lf h (z_ooO b2 C s2 k2 x y z 13 4 (by decide) (Or.inr (by decide))) ?_ (z_ooF R a e u 54 10 (Or.inr (by decide)) (by decide)) ?_
  · funext j
    refine z_ooO b2 C s2 k2 x y z _ j ?_ (Or.inl ?_) <;> cases b <;> decide
  · funext j
    exact z_ooF R a e u 60 j (Or.inl (by decide)) (by decide)
