/-! THE CLASS AGAINST THE REFERENCE: matches at once, the reference's search -/
theorem yj_thN {np a e u : Nat} (hn : np ≤ 10) (ha : a < 10) (he : e < 10) (hu : u < 10) : ¬ f_X9_areThree np (nI a).toInt64 (nI e).toInt64 (nI u).toInt64 = 0 ↔ (a < np ∧ e < np ∧ u < np) ∧ a ≠ e ∧ a ≠ u ∧ e ≠ u := by
  constructor
  · intro g
    obtain ⟨a', e', u', ⟨r1, r2, r3⟩, ⟨d1, d2, d3⟩, i1, i2, i3⟩ := yj_three hn g
    have j1 := (nI_eq (a := a) (b := a') (by omega) (by omega)).mp i1
    have j2 := (nI_eq (a := e) (b := e') (by omega) (by omega)).mp i2
    have j3 := (nI_eq (a := u) (b := u') (by omega) (by omega)).mp i3
    subst j1 j2 j3
    exact ⟨⟨r1, r2, r3⟩, d1, d2, d3⟩
  · rintro ⟨⟨r1, r2, r3⟩, d1, d2, d3⟩
    rw [yj_threeN hn r1 r2 r3 d1 d2 d3]; decide
theorem yj_cbF {R0 R : Nat → Nat → Int32} (h : yj_oF R0 R) (a e u : Nat) : f_X9_canBeHeld R a e u = f_X9_canBeHeld R0 a e u := by
  unfold f_X9_canBeHeld
  rw [h 64 a (by omega) (by omega) (by omega), h 64 e (by omega) (by omega) (by omega), h 64 u (by omega) (by omega) (by omega), h 63 u (by omega) (by omega) (by omega)]
theorem yj_st45 {np n t g : Nat} {R0 R : Nat → Nat → Int32} {S : Nat → Bool} (hn : np ≤ 10) (hn3 : n < 3) (ht : t < 1000) (hF : yj_oF R0 R) (hg : yj_gs np R0 g S) (FT : Nat → Int32 → (Nat → Nat → Int32) → (Nat → Nat → Int32)) (r : Nat) : (yj_mat (yj_jg R0) S t ∧ ∃ z, yj_gs np R0 z (yj_rm S t) ∧ gx_X9_triesOnce_45 np n (nI g) FT (r + 1) t R = gx_X9_triesOnce_45 np n (nI g) FT r (t + 1) (FT (t + 1) (nI z) (z_up R 65 n (nI t)))) ∨ (¬ yj_mat (yj_jg R0) S t ∧ gx_X9_triesOnce_45 np n (nI g) FT (r + 1) t R = gx_X9_triesOnce_45 np n (nI g) FT r (t + 1) R) := by
  obtain ⟨⟨d1, d2⟩, d3⟩ := yj_dgS t ht
  obtain ⟨z, z1, z2⟩ := yj_gsR hg ht
  have ga := hg.2.1 (t / 100) (by omega)
  have ge := hg.2.1 (t / 10 % 10) (by omega)
  have gu := hg.2.1 (t % 10) (by omega)
  have ca : (nI (t / 100)).toNatClampNeg = t / 100 := nI_clamp (by omega)
  have ce : (nI (t / 10 % 10)).toNatClampNeg = t / 10 % 10 := nI_clamp (by omega)
  have cu : (nI (t % 10)).toNatClampNeg = t % 10 := nI_clamp (by omega)
  have nb : ∀ {i : Nat}, i < 10 → S i = (yj_fr np R0 i && !g.testBit i) → g.testBit i = true → ¬ S i = true := by
    intro i _ h1 h2 h3
    rw [h2, h3, Bool.not_true, Bool.and_false] at h1
    exact absurd h1 (by decide)
  rw [gx_X9_triesOnce_45, if_neg (show ¬ (3 : Int32) ≤ nI n from nI_ge (b := 3) hn3 (by omega)), d1, d2, d3, ca, ce, cu, z1]
  by_cases c0 : nI (t / 10 % 10) ≤ nI (t / 100)
  · rw [if_pos c0]
    refine Or.inr ⟨fun q => ?_, rfl⟩
    exact absurd c0 (nI_ge q.2.1 (by omega))
  · rw [if_neg c0, yj_inS g hg.1 _ (by omega), yj_inS g hg.1 _ (by omega), yj_inS g hg.1 _ (by omega)]
    by_cases c1 : g.testBit (t / 100) = true
    · rw [if_pos c1, if_neg (show ¬ (1 : Int32) = 0 by decide)]
      exact Or.inr ⟨fun q => nb (by omega) ga c1 q.2.2.2.2.1, rfl⟩
    · rw [if_neg c1, if_pos (show (0 : Int32) = 0 from rfl)]
      by_cases c2 : g.testBit (t / 10 % 10) = true
      · rw [if_pos c2, if_neg (show ¬ (1 : Int32) = 0 by decide)]
        exact Or.inr ⟨fun q => nb (by omega) ge c2 q.2.2.2.2.2.1, rfl⟩
      · rw [if_neg c2, if_pos (show (0 : Int32) = 0 from rfl)]
        by_cases c3 : g.testBit (t % 10) = true
        · rw [if_pos c3, if_neg (show ¬ (1 : Int32) = 0 by decide)]
          exact Or.inr ⟨fun q => nb (by omega) gu c3 q.2.2.2.2.2.2.1, rfl⟩
        · rw [if_neg c3, if_pos (show (0 : Int32) = 0 from rfl)]
          have T := yj_thN (a := t / 100) (e := t / 10 % 10) (u := t % 10) hn (by omega) (by omega) (by omega)
          by_cases c4 : f_X9_areThree np (nI (t / 100)).toInt64 (nI (t / 10 % 10)).toInt64 (nI (t % 10)).toInt64 = 0
          · rw [if_pos c4]
            refine Or.inr ⟨fun q => ?_, rfl⟩
            refine absurd c4 (T.mpr ⟨⟨(yj_frT.mp (hg.2.2 _ q.2.2.2.2.1)).1, (yj_frT.mp (hg.2.2 _ q.2.2.2.2.2.1)).1, (yj_frT.mp (hg.2.2 _ q.2.2.2.2.2.2.1)).1⟩, ?_, fun z => q.2.2.1 z.symm, fun z => q.2.2.2.1 z.symm⟩)
            have := q.2.1
            omega
          · rw [if_neg c4, yj_cbF hF]
            obtain ⟨⟨r1, r2, r3⟩, x1, x2, x3⟩ := T.mp c4
            have B := yj_cbh (R := R0) r1 r2 r3
            by_cases c5 : f_X9_canBeHeld R0 (t / 100) (t / 10 % 10) (t % 10) = 0
            · rw [if_pos c5]
              refine Or.inr ⟨fun q => ?_, rfl⟩
              exact absurd c5 (B.mpr ⟨hg.2.2 _ q.2.2.2.2.1, hg.2.2 _ q.2.2.2.2.2.1, hg.2.2 _ q.2.2.2.2.2.2.1, q.2.2.2.2.2.2.2⟩)
            · rw [if_neg c5]
              obtain ⟨f1, f2, f3, f4⟩ := B.mp c5
              have s : ∀ {i : Nat}, S i = (yj_fr np R0 i && !g.testBit i) → yj_fr np R0 i = true → ¬ g.testBit i = true → S i = true := by
                intro i h1 h2 h3
                rw [h1, h2, Bool.eq_false_iff.mpr h3]
                rfl
              refine Or.inl ⟨⟨ht, ?_, fun z => x2 z.symm, fun z => x3 z.symm, s ga f1 c1, s ge f2 c2, s gu f3 c3, f4⟩, z, z2, rfl⟩
              exact Nat.lt_of_not_le (fun q => c0 (nI_le q (by omega)))
theorem yj_sp45 {np M n : Nat} {R0 : Nat → Nat → Int32} (hn : np ≤ 10) (hM : M ≤ 3) (hn3 : n ≤ 3) (FT : Nat → Int32 → (Nat → Nat → Int32) → (Nat → Nat → Int32)) (hFT : n < 3 → yj_FS np M (n + 1) R0 FT) {g : Nat} {S : Nat → Bool} (hg : yj_gs np R0 g S) (hc : n + yj_cap (yj_jg R0) S ≤ M) : ∀ (r t q : Nat) (R : Nat → Nat → Int32), t + r = 1000 → yj_oF R0 R → n ≤ q → q ≤ M → R 54 23 = nI q → yj_sp (yj_jg R0) M n t q S R0 R (gx_X9_triesOnce_45 np n (nI g) FT r t R)
  | 0, t, q, R, ht, hF, hnq, hq, e => by
    refine ⟨hF, fun _ _ => rfl, q, Nat.le_refl _, hq, e, fun _ _ => rfl, fun h _ => h, fun h1 h2 l hl hh => ?_⟩
    obtain ⟨k, hk⟩ : ∃ k, M - n = k + 1 := ⟨M - n - 1, by omega⟩
    rw [hk] at hl
    obtain ⟨x, l', e1, e2, -⟩ := hl
    have := hh x l' e1
    have := e2.1.1.1
    omega
  | r + 1, t, q, R, ht, hF, hnq, hq, e => by
    by_cases n3 : n < 3
    · have IH := yj_sp45 hn hM hn3 FT hFT hg hc r (t + 1)
      rcases yj_st45 hn n3 (show t < 1000 by omega) hF hg FT r with ⟨m, z, gz, st⟩ | ⟨m, st⟩
      · rw [st]
        have cm := yj_capM m
        have F := hFT n3 (t + 1) z q (z_up R 65 n (nI t)) (yj_rm S t) (by omega) (fun a j h1 h2 h3 => (z_up_k _ _ h1).trans (hF a j h1 h2 h3)) gz (by omega) hq ((z_up_k _ _ (by omega)).trans e)
        generalize FT (t + 1) (nI z) (z_up R 65 n (nI t)) = R2 at F ⊢
        obtain ⟨f1, f2, q2, k1, k2, k3, k4, k5, k6⟩ := F
        obtain ⟨i1, i2, q3, j1, j2, j3, j4, j5, j6⟩ := IH q2 R2 (by omega) f1 (by omega) k2 k3
        generalize gx_X9_triesOnce_45 np n (nI g) FT r (t + 1) R2 = R3 at i1 i2 j3 j4 j6 ⊢
        have h65 : ∀ i, i < n → R2 65 i = R 65 i := fun i hi => (f2 i (by omega)).trans (z_up_j _ _ (by omega))
        refine ⟨i1, fun i hi => (i2 i hi).trans (h65 i hi), q3, by omega, j2, j3, fun h i => ?_, fun h1 h2 => ?_, fun h1 h2 l hl hh => ?_⟩
        · rw [j4 (by omega), k4 h, z_up_k _ _ (by omega)]
        · exact j5 (k5 h1 (by omega)) h2
        · obtain ⟨k, hk⟩ : ∃ k, M - n = k + 1 := ⟨M - n - 1, by omega⟩
          have hl2 := hl
          rw [hk] at hl2
          obtain ⟨x, l', e1, e2, e3⟩ := hl2
          subst e1
          have le := hh x l' rfl
          by_cases tx : t = x
          · subst tx
            have cg := e2.1.2
            obtain ⟨y1, y2, y3⟩ := k6 h1 (by omega) l' (by rw [show M - (n + 1) = k by omega]; exact e3) (fun y l'' q => yj_paH e2 (by rw [← q]; exact e3))
            refine ⟨by omega, fun i hi => ?_, fun i hi => ?_⟩
            · rw [j4 y1, y2 i (by omega), z_up_j _ _ (by omega)]
            · rw [j4 y1]
              cases i with
              | zero => rw [Nat.add_zero, y2 n (by omega), z_up_s]; rfl
              | succ i => rw [show n + (i + 1) = n + 1 + i by omega, y3 i (by omega)]; rfl
          · have ng := e2.2 t (by omega)
            have lt : n + 1 + yj_cap (yj_jg R0) (yj_rm S t) < M := by
              refine Nat.lt_of_not_le fun w => ng ⟨m, by omega⟩
            obtain ⟨y1, y2, y3⟩ := j6 (k5 h1 lt) h2 (x :: l') hl (fun y l'' q => by
              rw [List.cons.injEq] at q
              omega)
            exact ⟨y1, fun i hi => (y2 i hi).trans (h65 i hi), y3⟩
      · rw [st]
        obtain ⟨i1, i2, q3, j1, j2, j3, j4, j5, j6⟩ := IH q R (by omega) hF hnq hq e
        refine ⟨i1, i2, q3, j1, j2, j3, j4, j5, fun h1 h2 l hl hh => ?_⟩
        refine j6 h1 h2 l hl (fun x l' q => ?_)
        have le := hh x l' q
        obtain ⟨k, hk⟩ : ∃ k, M - n = k + 1 := ⟨M - n - 1, by omega⟩
        rw [hk] at hl
        obtain ⟨x', l'', e1, e2, -⟩ := hl
        rw [q, List.cons.injEq] at e1
        have : t ≠ x := fun w => m (by rw [w, e1.1]; exact e2.1.1)
        omega
    · have n3' : n = 3 := by omega
      subst n3'
      unfold gx_X9_triesOnce_45
      rw [if_pos (show (3 : Int32) ≤ nI 3 by decide)]
      exact ⟨hF, fun _ _ => rfl, q, Nat.le_refl _, hq, e, fun _ _ => rfl, fun h _ => h, fun h1 => absurd h1 (by omega)⟩
theorem yj_w16 : ∀ (r t : Nat) (R : Nat → Nat → Int32), (∀ a j, a ≠ 66 → gw_X9_triesOnce_16 r t R a j = R a j) ∧ (∀ j, j < t ∨ t + r ≤ j → gw_X9_triesOnce_16 r t R 66 j = R 66 j) ∧ ∀ j, t ≤ j → j < t + r → gw_X9_triesOnce_16 r t R 66 j = R 65 j
  | 0, t, R => ⟨fun _ _ _ => rfl, fun _ _ => rfl, fun j h1 h2 => absurd h2 (by omega)⟩
  | r + 1, t, R => by
    obtain ⟨h1, h2, h3⟩ := yj_w16 r (t + 1) (z_up R 66 t (R 65 t))
    unfold gw_X9_triesOnce_16
    refine ⟨fun a j q => (h1 a j q).trans (z_up_k _ _ q), fun j hj => (h2 j (by omega)).trans (z_up_j _ _ (by omega)), fun j g1 g2 => ?_⟩
    by_cases q : j = t
    · subst q; rw [h2 j (by omega), z_up_s]
    · rw [h3 j (by omega) (by omega), z_up_k _ _ (by omega)]
theorem yj_spO {np M n : Nat} {R0 : Nat → Nat → Int32} (hn : np ≤ 10) (hM : M ≤ 3) (hn3 : n ≤ 3) (FT : Nat → Int32 → (Nat → Nat → Int32) → (Nat → Nat → Int32)) (hFT : n < 3 → yj_FS np M (n + 1) R0 FT) : yj_FS np M n R0 (fun f g R => m_X9_triesOnce R np n f g FT) := by
  intro f g q R S hf hF hg hc hq e
  show yj_sp (yj_jg R0) M n f q S R0 R (m_X9_triesOnce R np n f (nI g) FT)
  unfold m_X9_triesOnce
  rw [e]
  by_cases le : n ≤ q
  · rw [if_pos (nI_le le (by omega))]
    exact yj_sp45 hn hM hn3 FT hFT hg hc _ _ q R (by omega) hF le hq e
  · rw [if_neg (nI_ge (by omega) (by omega))]
    obtain ⟨w1, w2, w3⟩ := yj_w16 n 0 (z_up R 54 23 (nI n))
    have oF : yj_oF R0 (gw_X9_triesOnce_16 n 0 (z_up R 54 23 (nI n))) := by
      intro a j h1 h2 h3
      rw [w1 a j h2, ← hF a j h1 h2 h3]
      unfold z_up
      by_cases a4 : a = 54
      · rw [if_pos a4, if_neg (by omega)]
      · rw [if_neg a4]
    have c65 : ∀ i, gw_X9_triesOnce_16 n 0 (z_up R 54 23 (nI n)) 65 i = R 65 i := fun i => (w1 65 i (by omega)).trans (z_up_k _ _ (by omega))
    have c66 : ∀ i, i < n → gw_X9_triesOnce_16 n 0 (z_up R 54 23 (nI n)) 66 i = R 65 i := fun i hi => (w3 i (by omega) (by omega)).trans (z_up_k _ _ (by omega))
    obtain ⟨i1, i2, q3, j1, j2, j3, j4, j5, j6⟩ := yj_sp45 hn hM hn3 FT hFT hg hc (1000 - f) f n _ (by omega) oF (Nat.le_refl _) (by omega) ((w1 54 23 (by omega)).trans (z_up_s _ _ _ _))
    refine ⟨i1, fun i hi => (i2 i hi).trans (c65 i), q3, by omega, j2, j3, fun h => absurd h (by omega), fun h1 h2 => ?_, fun h1 h2 l hl hh => ?_⟩
    · exact j5 (by omega) h2
    · by_cases nM : n < M
      · obtain ⟨y1, y2, y3⟩ := j6 nM h2 l hl hh
        exact ⟨y1, fun i hi => (y2 i hi).trans (c65 i), y3⟩
      · have : n = M := by omega
        refine ⟨by omega, fun i hi => (j4 this i).trans (c66 i hi), fun i hi => absurd hi (by omega)⟩
theorem yj_trF {np M : Nat} {R0 : Nat → Nat → Int32} (hn : np ≤ 10) (hM : M ≤ 3) : ∀ m : Nat, m ≤ 3 → yj_FS np M (3 - m) R0 (z_tr np m)
  | 0, _ => yj_spO hn hM (Nat.le_refl _) (fun _ _ K => K) (fun h => absurd h (by omega))
  | m + 1, hm => yj_spO hn hM (by omega) (z_tr np m) (fun _ => by
      have := yj_trF (R0 := R0) hn hM m (by omega)
      rw [show 3 - (m + 1) + 1 = 3 - m by omega]; exact this)
theorem yj_paN {J : Nat → Bool} : ∀ {k : Nat} {S : Nat → Bool} {l : List Nat}, yj_pa J k S l → l.length = k
  | 0, S, l, h => by rw [show l = [] from h]; rfl
  | k + 1, S, l, ⟨x, l', e, _, h⟩ => by rw [e, List.length_cons, yj_paN h]
theorem yj_s_atOnce {b : Bool} {np nq dn km tm sz bo rn : Nat} {C R : Nat → Nat → Int32} {CL RL : Nat → Nat → Int64} (h : yj_J b np nq dn km tm sz bo rn C R CL RL) (k : Int32) : f_X8_atOnce C np k = f_X9_atOnce R np k ∧ yj_B b C (m_X9_atOnce R np k) CL RL := by
  have hn := yj_Y2 h.1
  have T := yj_Y1 h.1
  obtain ⟨V, v1, v2, v3⟩ := yj_freeB T np (Nat.le_refl _)
  have p10 : 2 ^ np ≤ 1024 := Nat.pow_le_pow_right (n := 2) (by decide) hn
  have Fr := yj_bgR R np
  have m0 : z_up (m_X9_begins R np) 54 23 0 = z_up (m_X9_begins R np) 54 23 (nI 0) := rfl
  unfold f_X8_atOnce f_X9_atOnce m_X9_atOnce
  generalize m_X9_begins R np = R0 at T v3 Fr ⊢
  have bs : yj_bs V (yj_fr np R0) := ⟨by omega, fun i hi => by
    rw [v3 i hi]
    cases q : yj_fr np R0 i
    · rw [Bool.and_false]
    · rw [decide_eq_true (yj_frT.mp q).1]; rfl⟩
  have sb : yj_sb np R0 (yj_fr np R0) := fun _ q => q
  obtain ⟨M1, M2⟩ := yj_most T bs sb
  have ev : f_X7_freeBits C 1 np = nI V := v2
  obtain ⟨l, hl⟩ := yj_paX (J := yj_jg R0) _ (yj_fr np R0) (Nat.le_refl (yj_cap (yj_jg R0) (yj_fr np R0)))
  have em : f_X7_mostAtOnce C 1 np (f_X7_freeBits C 1 np) = nI (yj_cap (yj_jg R0) (yj_fr np R0)) := by rw [ev, M1]
  have CC := yj_c46 T M2 em
  have oF : yj_oF R0 (z_up R0 54 23 0) := by
    intro a j h1 h2 h3
    unfold z_up
    by_cases a4 : a = 54
    · rw [if_pos a4, if_neg (by omega)]
    · rw [if_neg a4]
  have SP := yj_trF (np := np) (M := yj_cap (yj_jg R0) (yj_fr np R0)) (R0 := R0) hn M2 3 (Nat.le_refl _) 0 0 0 (z_up R0 54 23 0) (yj_fr np R0) (by omega) oF ⟨by omega, fun i hi => by rw [Nat.zero_testBit]; simp, sb⟩ (by omega) (Nat.zero_le _) (z_up_s _ _ _ _)
  rw [show nI 0 = (0 : Int32) from rfl] at SP
  generalize z_tr np 3 0 0 (z_up R0 54 23 0) = R1 at SP ⊢
  rw [em, ev]
  generalize hMc : yj_cap (yj_jg R0) (yj_fr np R0) = M at SP hl CC M2 ⊢
  obtain ⟨s1, -, q, q1, q2, q3, q4, q5, q6⟩ := SP
  have fin : R1 54 23 = nI M ∧ ∀ i, i < M → R1 66 i = nI (l.getD i 0) := by
    by_cases z : M = 0
    · exact ⟨by rw [q3, show q = M by omega], fun i hi => absurd hi (by omega)⟩
    · obtain ⟨y1, -, y3⟩ := q6 (by omega) (by omega) l (by rw [Nat.sub_zero]; exact hl) (fun x l' _ => Nat.zero_le _)
      exact ⟨by rw [q3, y1], fun i hi => by have := y3 i (by omega); rw [Nat.zero_add] at this; exact this⟩
  obtain ⟨r1, r2⟩ := fin
  rw [r1]
  have Bk : yj_B b C R1 CL RL := yj_mk (yj_fJ h (fun _ _ _ => rfl) (yj_fRtr Fr (fun a j q => s1 a j (by unfold yj_kR at q; omega) (by unfold yj_kR at q; omega) (by unfold yj_kR at q; omega))))
  by_cases k1 : (-1) ≤ k
  · rw [if_pos k1, if_pos k1, if_pos k1]
    by_cases k2 : k = (-1)
    · subst k2
      rw [if_pos rfl, if_neg (show ¬ (0 : Int32) ≤ -1 by decide), if_neg (show ¬ (0 : Int32) ≤ -1 by decide)]
      exact ⟨rfl, Bk⟩
    · have k3 : ¬ k < 0 := by
        intro w
        rw [Int32.lt_iff_toInt_lt] at w
        rw [Int32.le_iff_toInt_le] at k1
        refine k2 (Int32.toInt.inj ?_)
        rw [show (0 : Int32).toInt = 0 from rfl] at w
        rw [show (-1 : Int32).toInt = -1 from rfl] at k1 ⊢
        omega
      obtain ⟨K, hK, rfl⟩ := nI_of k3
      rw [if_neg k2, if_pos (nI_pos' hK), if_pos (nI_pos' hK), ite_self, nI_clamp hK]
      refine ⟨?_, Bk⟩
      by_cases KM : K < M
      · rw [if_pos (nI_lt KM (by omega)), if_neg (nI_ge KM (by omega)), CC (K + 1) 0 V (yj_fr np R0) l (-2) (by omega) bs sb (by rw [Nat.sub_zero]; exact hl), if_neg (by omega), r2 K KM]
        rfl
      · rw [if_neg (nI_nlt (by omega) hK), if_pos (nI_le (by omega) hK)]
  · rw [if_neg k1, if_neg k1, if_neg k1]
    exact ⟨rfl, yj_mk h⟩
