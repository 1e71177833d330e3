/-! THE CLASS AGAINST THE REFERENCE: whole expressions, lines, the text -/
theorem yj_lv5 {ln op : Nat} {tx : Nat → Int32} {b : Bool} {FL : Nat → Nat → (Nat → Nat → Int32) → Int32 × (Nat → Nat → Int32)} {FO : Nat → (Nat → Nat → Int32) → Int32 × (Nat → Nat → Int32)} {R : (Nat → Nat → Int32) → Int32 × (Nat → Nat → Int32)} (hF : yj_PF ln tx b op (FO op) R) : yj_PF ln tx b op (fun I => (f_X1_readLevel b I FL FO 5 op, m_X1_readLevel b I FL FO 5 op)) R := by
  intro I J p dr h
  show yj_O ln tx b p op dr [] I J (f_X1_readLevel b I FL FO 5 op, m_X1_readLevel b I FL FO 5 op) (R J)
  unfold f_X1_readLevel m_X1_readLevel
  rw [if_neg (show ¬ nI 5 ≤ 4 by decide), if_neg (show ¬ nI 5 ≤ 4 by decide)]
  exact hF I J p dr h
theorem yj_cmp0 (FO : (Nat → Nat → Int32) → Int32 × (Nat → Nat → Int32)) (J : Nat → Nat → Int32) (h : 0 ≤ (m_X9_sums J FO) 54 14) : m_X9_compared J FO = m_X9_sums J FO := by
  unfold m_X9_compared
  rw [if_pos h]
theorem yj_cmp1 (FO : (Nat → Nat → Int32) → Int32 × (Nat → Nat → Int32)) (J : Nat → Nat → Int32) (h : (m_X9_sums J FO) 54 14 < 0) (q : f_X1_levelOf (f_X9_byteAt (m_X9_sums J FO)) = nI 2) : (f_X9_compared J FO, m_X9_compared J FO) = (f_X1_joined (f_X9_byteAt (m_X9_sums J FO)) (f_X9_sums J FO) (f_X9_sums (z_up (m_X9_sums J FO) 54 12 ((m_X9_sums J FO) 54 12 + 1)) FO), m_X9_sums (z_up (m_X9_sums J FO) 54 12 ((m_X9_sums J FO) 54 12 + 1)) FO) := by
  unfold f_X9_compared m_X9_compared
  rw [if_neg (Int32.not_le.mpr h), if_neg (Int32.not_le.mpr h)]
  simp only [ite_self]
  rcases yj_lv2 q with e | e | e
  · rw [e, yj_j60, if_pos (show (60 : Int32) = 60 from rfl), if_pos (show (60 : Int32) = 60 from rfl)]
  · rw [e, yj_j61, if_neg (show ¬ (61 : Int32) = 60 by decide), if_neg (show ¬ (61 : Int32) = 60 by decide), if_pos (show (61 : Int32) = 61 from rfl), if_pos (show (61 : Int32) = 61 from rfl)]
  · rw [e, yj_j62, if_neg (show ¬ (62 : Int32) = 60 by decide), if_neg (show ¬ (62 : Int32) = 60 by decide), if_neg (show ¬ (62 : Int32) = 61 by decide), if_neg (show ¬ (62 : Int32) = 61 by decide), if_pos (show (62 : Int32) = 62 from rfl), if_pos (show (62 : Int32) = 62 from rfl)]
theorem yj_cmp2 (FO : (Nat → Nat → Int32) → Int32 × (Nat → Nat → Int32)) (J : Nat → Nat → Int32) (h : (m_X9_sums J FO) 54 14 < 0) (q : ¬ f_X1_levelOf (f_X9_byteAt (m_X9_sums J FO)) = nI 2) : (f_X9_compared J FO, m_X9_compared J FO) = (f_X9_sums J FO, m_X9_sums J FO) := by
  have n1 : ¬ f_X9_byteAt (m_X9_sums J FO) = 60 := fun e => q (by rw [e]; decide)
  have n2 : ¬ f_X9_byteAt (m_X9_sums J FO) = 61 := fun e => q (by rw [e]; decide)
  have n3 : ¬ f_X9_byteAt (m_X9_sums J FO) = 62 := fun e => q (by rw [e]; decide)
  unfold f_X9_compared m_X9_compared
  rw [if_neg (Int32.not_le.mpr h), if_neg (Int32.not_le.mpr h), if_neg n1, if_neg n1, if_neg n2, if_neg n2, if_neg n3, if_neg n3]
theorem yj_PFc {ln op : Nat} {tx : Nat → Int32} {b : Bool} {F F2 R R2 : (Nat → Nat → Int32) → Int32 × (Nat → Nat → Int32)} (h : yj_PF ln tx b op F R) (hF : F2 = F) (hR : R = R2) : yj_PF ln tx b op F2 R2 := by
  subst hF; subst hR; exact h
theorem yj_rp1 (b : Bool) (n lv op : Nat) : (z_rp b (n + 1)).1 lv op = fun I => (f_X1_readLevel b I (z_rp b n).1 (z_rp b n).2 lv op, m_X1_readLevel b I (z_rp b n).1 (z_rp b n).2 lv op) := by rw [z_rp]
theorem yj_rp2 (b : Bool) (n op : Nat) : (z_rp b (n + 1)).2 op = fun I => (f_X1_readOperand b I (z_rp b n).1 (z_rp b n).2 op, m_X1_readOperand b I (z_rp b n).1 (z_rp b n).2 op) := by rw [z_rp]
theorem yj_or1E (m : Nat) : z_oneR (m + 1) = fun J => (f_X9_one J (z_oneR m) (z_eF (z_oneR m)), m_X9_one J (z_oneR m) (z_eF (z_oneR m))) := by rw [z_oneR]
theorem yj_pE (FO : (Nat → Nat → Int32) → Int32 × (Nat → Nat → Int32)) : (fun J => gx_X9_product_10 FO 121 0 (FO J).1 (f_X9_byteAt (FO J).2) (FO J).2) = fun J => (f_X9_product J FO, m_X9_product J FO) := by
  funext J
  unfold f_X9_product m_X9_product
  generalize gx_X9_product_10 FO 121 0 (FO J).1 (f_X9_byteAt (FO J).2) (FO J).2 = z
  rfl
theorem yj_sE (FO : (Nat → Nat → Int32) → Int32 × (Nat → Nat → Int32)) : (fun J => gx_X9_sums_5 FO 121 0 (f_X9_product J FO) (m_X9_product J FO)) = fun J => (f_X9_sums J FO, m_X9_sums J FO) := by
  funext J
  unfold f_X9_sums m_X9_sums
  generalize gx_X9_sums_5 FO 121 0 (f_X9_product J FO) (m_X9_product J FO) = z
  rfl
theorem yj_bE (FO : (Nat → Nat → Int32) → Int32 × (Nat → Nat → Int32)) : (fun J => gx_X9_both_5 FO 121 0 (f_X9_compared J FO) (m_X9_compared J FO)) = fun J => (f_X9_both J FO, m_X9_both J FO) := by
  funext J
  unfold f_X9_both m_X9_both
  generalize gx_X9_both_5 FO 121 0 (f_X9_compared J FO) (m_X9_compared J FO) = z
  rfl
theorem yj_eE (FO : (Nat → Nat → Int32) → Int32 × (Nat → Nat → Int32)) : (fun J => gx_X9_either_5 FO 121 0 (f_X9_both J FO) (m_X9_both J FO)) = z_eF FO := by
  funext J
  unfold z_eF f_X9_either m_X9_either
  generalize gx_X9_either_5 FO 121 0 (f_X9_both J FO) (m_X9_both J FO) = z
  rfl
theorem yj_ch4 {ln op n : Nat} {tx : Nat → Int32} {b : Bool} {FO : (Nat → Nat → Int32) → Int32 × (Nat → Nat → Int32)} (h : yj_PF ln tx b op ((z_rp b (n + 1)).1 5 op) FO) : yj_PF ln tx b op ((z_rp b (n + 2)).1 4 op) (fun J => (f_X9_product J FO, m_X9_product J FO)) := by
  have k := yj_level (lv := 4) (FL := (z_rp b (n + 1)).1) (FO := (z_rp b (n + 1)).2) (by omega) (by omega) h (yj_LSproduct FO)
  rw [← yj_rp1 b (n + 1) 4 op] at k
  (try dsimp only at k)
  rw [yj_pE FO] at k
  exact k
theorem yj_ch3 {ln op n : Nat} {tx : Nat → Int32} {b : Bool} {FO : (Nat → Nat → Int32) → Int32 × (Nat → Nat → Int32)} (h : yj_PF ln tx b op ((z_rp b (n + 2)).1 4 op) (fun J => (f_X9_product J FO, m_X9_product J FO))) : yj_PF ln tx b op ((z_rp b (n + 3)).1 3 op) (fun J => (f_X9_sums J FO, m_X9_sums J FO)) := by
  have k := yj_level (lv := 3) (FL := (z_rp b (n + 2)).1) (FO := (z_rp b (n + 2)).2) (by omega) (by omega) h (yj_LSsums FO)
  rw [← yj_rp1 b (n + 2) 3 op] at k
  (try dsimp only at k)
  rw [yj_sE FO] at k
  exact k
theorem yj_ch2 {ln op n : Nat} {tx : Nat → Int32} {b : Bool} {FO : (Nat → Nat → Int32) → Int32 × (Nat → Nat → Int32)} (h : yj_PF ln tx b op ((z_rp b (n + 3)).1 3 op) (fun J => (f_X9_sums J FO, m_X9_sums J FO))) : yj_PF ln tx b op ((z_rp b (n + 4)).1 2 op) (fun J => (f_X9_compared J FO, m_X9_compared J FO)) :=
  yj_PFc (yj_level2 (FL := (z_rp b (n + 3)).1) (FO := (z_rp b (n + 3)).2) (R := fun J => (f_X9_compared J FO, m_X9_compared J FO)) h (fun J q => yj_cmp0 FO J q) (fun J q q2 => yj_cmp1 FO J q q2) (fun J q q2 => yj_cmp2 FO J q q2)) (yj_rp1 b (n + 3) 2 op) rfl
theorem yj_ch1 {ln op n : Nat} {tx : Nat → Int32} {b : Bool} {FO : (Nat → Nat → Int32) → Int32 × (Nat → Nat → Int32)} (h : yj_PF ln tx b op ((z_rp b (n + 4)).1 2 op) (fun J => (f_X9_compared J FO, m_X9_compared J FO))) : yj_PF ln tx b op ((z_rp b (n + 5)).1 1 op) (fun J => (f_X9_both J FO, m_X9_both J FO)) := by
  have k := yj_level (lv := 1) (FL := (z_rp b (n + 4)).1) (FO := (z_rp b (n + 4)).2) (by omega) (by omega) h (yj_LSboth FO)
  rw [← yj_rp1 b (n + 4) 1 op] at k
  (try dsimp only at k)
  rw [yj_bE FO] at k
  exact k
theorem yj_ch0 {ln op n : Nat} {tx : Nat → Int32} {b : Bool} {FO : (Nat → Nat → Int32) → Int32 × (Nat → Nat → Int32)} (h : yj_PF ln tx b op ((z_rp b (n + 5)).1 1 op) (fun J => (f_X9_both J FO, m_X9_both J FO))) : yj_PF ln tx b op ((z_rp b (n + 6)).1 0 op) (z_eF FO) := by
  have k := yj_level (lv := 0) (FL := (z_rp b (n + 5)).1) (FO := (z_rp b (n + 5)).2) (by omega) (by omega) h (yj_LSeither FO)
  rw [← yj_rp1 b (n + 5) 0 op] at k
  (try dsimp only at k)
  rw [yj_eE FO] at k
  exact k
theorem yj_ch5 {ln op n : Nat} {tx : Nat → Int32} {b : Bool} {FO : (Nat → Nat → Int32) → Int32 × (Nat → Nat → Int32)} (h : yj_PF ln tx b op ((z_rp b n).2 op) FO) : yj_PF ln tx b op ((z_rp b (n + 1)).1 5 op) FO :=
  yj_PFc (yj_lv5 (FL := (z_rp b n).1) (FO := (z_rp b n).2) h) (yj_rp1 b n 5 op) rfl
theorem yj_chain {ln op n m : Nat} {tx : Nat → Int32} {b : Bool} (h : yj_PF ln tx b op ((z_rp b n).2 op) (z_oneR m)) : yj_PF ln tx b op ((z_rp b (n + 6)).1 0 op) (z_eF (z_oneR m)) := yj_ch0 (yj_ch1 (yj_ch2 (yj_ch3 (yj_ch4 (yj_ch5 h)))))
theorem yj_opR {ln op n m : Nat} {tx : Nat → Int32} {b : Bool} (hE : op < 6 → yj_PF ln tx b (op + 1) ((z_rp b n).1 0 (op + 1)) (z_eF (z_oneR m))) (hO : op < 6 → yj_PF ln tx b (op + 1) ((z_rp b n).2 (op + 1)) (z_oneR m)) : yj_PF ln tx b op ((z_rp b (n + 1)).2 op) (z_oneR (m + 1)) :=
  yj_PFc (F := fun I => (f_X1_readOperand b I (z_rp b n).1 (z_rp b n).2 op, m_X1_readOperand b I (z_rp b n).1 (z_rp b n).2 op)) (fun I J p dr h => yj_operand hE hO h) (yj_rp2 b n op) (yj_or1E m).symm
theorem yj_recA (ln : Nat) (tx : Nat → Int32) (b : Bool) : ∀ (k op : Nat), op + k = 6 → (∀ n m, 8 * (7 - op) < n → 7 - op < m → yj_PF ln tx b op ((z_rp b n).2 op) (z_oneR m)) ∧ (∀ n m, 8 * (7 - op) + 6 < n → 7 - op < m → yj_PF ln tx b op ((z_rp b n).1 0 op) (z_eF (z_oneR m))) := by
  intro k
  induction k with
  | zero =>
    intro op hop
    have A : ∀ n m, 8 * (7 - op) < n → 7 - op < m → yj_PF ln tx b op ((z_rp b n).2 op) (z_oneR m) := by
      intro n m hn hm
      obtain ⟨n, rfl⟩ : ∃ k, n = k + 1 := ⟨n - 1, by omega⟩
      obtain ⟨m, rfl⟩ : ∃ k, m = k + 1 := ⟨m - 1, by omega⟩
      exact yj_opR (fun q => absurd q (by omega)) (fun q => absurd q (by omega))
    refine ⟨A, fun n m hn hm => ?_⟩
    obtain ⟨n, rfl⟩ : ∃ k, n = k + 6 := ⟨n - 6, by omega⟩
    exact yj_chain (A n m (by omega) hm)
  | succ k ih =>
    intro op hop
    obtain ⟨i1, i2⟩ := ih (op + 1) (by omega)
    have A : ∀ n m, 8 * (7 - op) < n → 7 - op < m → yj_PF ln tx b op ((z_rp b n).2 op) (z_oneR m) := by
      intro n m hn hm
      obtain ⟨n, rfl⟩ : ∃ k, n = k + 1 := ⟨n - 1, by omega⟩
      obtain ⟨m, rfl⟩ : ∃ k, m = k + 1 := ⟨m - 1, by omega⟩
      exact yj_opR (fun _ => i2 n m (by omega) (by omega)) (fun _ => i1 n m (by omega) (by omega))
    refine ⟨A, fun n m hn hm => ?_⟩
    obtain ⟨n, rfl⟩ : ∃ k, n = k + 6 := ⟨n - 6, by omega⟩
    exact yj_chain (A n m (by omega) hm)
theorem yj_E (ln : Nat) (tx : Nat → Int32) (b : Bool) : yj_PF ln tx b 0 (z_rE b) z_eE := (yj_recA ln tx b 6 0 rfl).2 63 8 (by omega) (by omega)
theorem yj_SgP {nm : Nat → Int32} {b : Bool} {I I' : Nat → Nat → Int32} {dr dr' : Nat} {v : Int32} (h : yj_Sg nm b I I' dr dr' [] [v]) : dr < dr' := by
  obtain ⟨sg, h1, -, -, -, h5⟩ := h
  rcases sg with _ | ⟨e, sg⟩
  · exact absurd (h5 []) (by intro q; cases q)
  · rw [List.length_cons] at h1; omega
theorem yj_jnl (s : Int32) {st : List Int32} (h : st.length < 121) : yj_jn s st = yj_jl s st := by
  have p : ∀ (v : Int32) (l : List Int32), l.length < 121 → yj_psh v l = v :: l := fun v l q => by unfold yj_psh; rw [if_pos q]
  have t1 : st.tail.length < 121 := by rw [List.length_tail]; omega
  have t2 : st.tail.tail.length < 121 := by rw [List.length_tail, List.length_tail]; omega
  unfold yj_jn yj_jl
  rw [p _ _ t1, p _ _ t1, p _ _ t1, p _ _ t2]
theorem yj_s1L (nm : Nat → Int32) (st : List Int32) (e : Int32) : (yj_s1 nm st e).length ≤ st.length + 1 := by
  unfold yj_s1 yj_jl
  (repeat' split) <;> simp only [List.length_cons, List.length_tail] <;> omega
theorem yj_evR (E nm : Nat → Int32) : ∀ (sg : List Int32) (t r : Nat) (st : List Int32), (∀ j, j < sg.length → E (t + j) = sg.getD j 0) → (∀ e, e ∈ sg → e ≠ (-63) ∧ e ≠ (-59)) → st.length + sg.length ≤ 121 → yj_ev E nm (sg.length + r) t 0 st = yj_ev E nm r (t + sg.length) 0 (yj_run nm sg st)
  | [], t, r, st, _, _, _ => by
    rw [List.length_nil, Nat.zero_add, Nat.add_zero]
    rfl
  | e :: sg, t, r, st, h1, h2, h3 => by
    rw [List.length_cons] at h3
    have e0 : E t = e := by have := h1 0 (by rw [List.length_cons]; omega); rw [Nat.add_zero] at this; exact this
    have ih := yj_evR E nm sg (t + 1) r (yj_s1 nm st e) (fun j hj => by
      have := h1 (j + 1) (by rw [List.length_cons]; omega)
      rw [show t + (j + 1) = t + 1 + j by omega] at this
      exact this) (fun q hq => h2 q (List.mem_cons_of_mem _ hq)) (by have := yj_s1L nm st e; omega)
    have hne := h2 e List.mem_cons_self
    rw [List.length_cons, show sg.length + 1 + r = (sg.length + r) + 1 by omega, show t + (sg.length + 1) = t + 1 + sg.length by omega]
    show yj_ev E nm ((sg.length + r) + 1) t 0 st = yj_ev E nm r (t + 1 + sg.length) 0 (yj_run nm sg (yj_s1 nm st e))
    rw [← ih]
    have ps : ∀ v : Int32, yj_psh v st = v :: st := fun v => by unfold yj_psh; rw [if_pos (by omega)]
    rw [yj_ev, e0, if_pos rfl, if_neg hne.1, if_neg hne.2, yj_jnl _ (by omega), ps, ps]
    unfold yj_s1
    by_cases n : e < 0
    · rw [if_pos n, if_pos n]
      by_cases q : f_X1_isName (-e) = 0
      · rw [if_pos q, if_pos q]
      · rw [if_neg q, if_neg q]
    · rw [if_neg n, if_neg n]
theorem yj_evP (E nm : Nat → Int32) : ∀ (sg : List Int32) (t r : Nat) (st : List Int32), (∀ j, j < sg.length → E (t + j) = sg.getD j 0) → (∀ e, e ∈ sg → e ≠ (-63) ∧ e ≠ (-59)) → yj_ev E nm (sg.length + r) t 1 st = yj_ev E nm r (t + sg.length) 1 st
  | [], t, r, st, _, _ => by rw [List.length_nil, Nat.zero_add, Nat.add_zero]
  | e :: sg, t, r, st, h1, h2 => by
    have e0 : E t = e := by have := h1 0 (by rw [List.length_cons]; omega); rw [Nat.add_zero] at this; exact this
    have ih := yj_evP E nm sg (t + 1) r st (fun j hj => by
      have := h1 (j + 1) (by rw [List.length_cons]; omega)
      rw [show t + (j + 1) = t + 1 + j by omega] at this
      exact this) (fun q hq => h2 q (List.mem_cons_of_mem _ hq))
    have hne := h2 e List.mem_cons_self
    rw [List.length_cons, show sg.length + 1 + r = (sg.length + r) + 1 by omega, show t + (sg.length + 1) = t + 1 + sg.length by omega, ← ih, yj_ev, e0, if_neg (show ¬ (1 : Int32) = 0 by decide), if_neg hne.2]
/-- the lines so far: g whether one counted, v what it gave -/
def yj_Dn (nm D : Nat → Int32) (dr : Nat) (g v : Int32) : Prop := ∀ E : Nat → Int32, (∀ j, j < dr → E j = D j) → ∀ r, yj_ev E nm (dr + r) 0 0 [] = if g = 0 then yj_ev E nm r dr 0 [] else v
theorem yj_Dn0 (nm D : Nat → Int32) (v : Int32) : yj_Dn nm D 0 0 v := fun E _ r => by rw [Nat.zero_add, if_pos rfl]
theorem yj_Dn1 {nm D0 D : Nat → Int32} {dr : Nat} {g v : Int32} (h : yj_Dn nm D0 dr g v) (h0 : ∀ j, j < dr → D j = D0 j) (sg : List Int32) (w : Int32) (h1 : ∀ j, j < sg.length → D (dr + j) = sg.getD j 0) (h2 : ∀ e, e ∈ sg → e ≠ (-63) ∧ e ≠ (-59)) (h3 : ∀ st, yj_run nm sg ([] ++ st) = [w] ++ st) (h4 : D (dr + sg.length) = (-59)) (h5 : dr + sg.length ≤ 120) : yj_Dn nm D (dr + sg.length + 1) (if g = 0 then 1 else g) (if g = 0 then w else v) := by
  intro E hE r
  have k := h E (fun j hj => by rw [hE j (by omega)]; exact h0 j hj) (sg.length + 1 + r)
  rw [show dr + sg.length + 1 + r = dr + (sg.length + 1 + r) by omega, k]
  by_cases q : g = 0
  · rw [if_pos q, if_pos q, if_pos q, if_neg (show ¬ (1 : Int32) = 0 by decide), show sg.length + 1 + r = sg.length + (r + 1) by omega]
    rw [yj_evR E nm sg dr (r + 1) [] (fun j hj => by rw [hE _ (by omega)]; exact h1 j hj) h2 (by rw [List.length_nil]; omega)]
    have e : E (dr + sg.length) = (-59) := by rw [hE _ (by omega)]; exact h4
    rw [yj_ev, e, if_pos rfl, if_pos (by decide), if_neg (by decide), if_pos rfl]
    have := h3 []
    rw [List.nil_append] at this
    rw [this]
    rfl
  · rw [if_neg q, if_neg q, if_neg q, if_neg q]
theorem yj_Dn2 {nm D0 D : Nat → Int32} {dr : Nat} {g v : Int32} (h : yj_Dn nm D0 dr g v) (h0 : ∀ j, j < dr → D j = D0 j) (sA sB : List Int32) (x w : Int32) (a1 : ∀ j, j < sA.length → D (dr + j) = sA.getD j 0) (a2 : ∀ e, e ∈ sA → e ≠ (-63) ∧ e ≠ (-59)) (a3 : ∀ st, yj_run nm sA ([] ++ st) = [x] ++ st) (a4 : D (dr + sA.length) = (-63)) (b1 : ∀ j, j < sB.length → D (dr + sA.length + 1 + j) = sB.getD j 0) (b2 : ∀ e, e ∈ sB → e ≠ (-63) ∧ e ≠ (-59)) (b3 : ∀ st, yj_run nm sB ([] ++ st) = [w] ++ st) (b4 : D (dr + sA.length + 1 + sB.length) = (-59)) (h5 : dr + sA.length + 1 + sB.length ≤ 120) : yj_Dn nm D (dr + sA.length + 1 + sB.length + 1) (if x = 0 then g else if g = 0 then 1 else g) (if x = 0 then v else if g = 0 then w else v) := by
  intro E hE r
  have k := h E (fun j hj => by rw [hE j (by omega)]; exact h0 j hj) (sA.length + (sB.length + (r + 1) + 1))
  rw [show dr + sA.length + 1 + sB.length + 1 + r = dr + (sA.length + (sB.length + (r + 1) + 1)) by omega, k]
  by_cases q : g = 0
  · have eA : E (dr + sA.length) = (-63) := by rw [hE _ (by omega)]; exact a4
    have eB : E (dr + sA.length + 1 + sB.length) = (-59) := by rw [hE _ (by omega)]; exact b4
    have hB : ∀ j, j < sB.length → E (dr + sA.length + 1 + j) = sB.getD j 0 := fun j hj => by rw [hE _ (by omega)]; exact b1 j hj
    rw [if_pos q, yj_evR E nm sA dr _ [] (fun j hj => by rw [hE _ (by omega)]; exact a1 j hj) a2 (by rw [List.length_nil]; omega)]
    have r1 := a3 []
    rw [List.nil_append] at r1
    rw [r1, yj_ev, eA, if_pos rfl, if_pos (by decide), if_pos rfl]
    show (if x = 0 then yj_ev E nm (sB.length + (r + 1)) (dr + sA.length + 1) 1 [] else yj_ev E nm (sB.length + (r + 1)) (dr + sA.length + 1) 0 []) = _
    by_cases z : x = 0
    · rw [if_pos z, if_pos z, if_pos z, if_pos q, yj_evP E nm sB _ (r + 1) [] hB b2, yj_ev, eB, if_neg (show ¬ (1 : Int32) = 0 by decide), if_pos rfl]
    · rw [if_neg z, if_neg z, if_neg z, if_pos q, if_pos q, if_neg (show ¬ (1 : Int32) = 0 by decide), yj_evR E nm sB _ (r + 1) [] hB b2 (by rw [List.length_nil]; omega), yj_ev, eB, if_pos rfl, if_pos (by decide), if_neg (by decide), if_pos rfl]
      have r2 := b3 []
      rw [List.nil_append] at r2
      rw [r2]
      rfl
  · by_cases z : x = 0
    · rw [if_neg q, if_pos z, if_pos z, if_neg q]
    · rw [if_neg q, if_neg z, if_neg z, if_neg q, if_neg q, if_neg q]
