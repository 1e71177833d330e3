/-! THE CLASS AGAINST THE REFERENCE: by turns -/
def yj_tC (u : Nat) (C1 C' : Nat → Nat → Int32) : Prop := ∀ x j, x ≠ 32 → (x ≠ 81 ∨ j ≠ u) → x ≠ 17 → (x ≠ 13 ∨ j ≠ 8) → C' x j = C1 x j
def yj_tR (u : Nat) (R1 R' : Nat → Nat → Int32) : Prop := ∀ x j, (x ≠ 54 ∨ (j ≠ 11 ∧ j ≠ 12 ∧ j ≠ 13 ∧ j ≠ 14 ∧ j ≠ 15)) → x ≠ 61 → (x ≠ 62 ∨ j ≠ u) → R' x j = R1 x j
theorem yj_tT {np u : Nat} {C1 R1 C' R' : Nat → Nat → Int32} (T : yj_T np 79 C1 R1) (hC : yj_tC u C1 C') (hR : yj_tR u R1 R') {g : Int32} (hg : yj_r 99 g) : yj_T np 79 (z_up C' 81 u g) (z_up R' 62 u g) := by
  refine ⟨⟨?_, ?_, T.1.2.2⟩, fun j hj => ?_, ?_, ?_⟩
  · rw [z_up_k _ _ (by omega), hC _ _ (by omega) (by omega) (by omega) (by omega)]; exact T.1.1
  · rw [z_up_k _ _ (by omega), hR _ _ (by omega) (by omega) (by omega)]; exact T.1.2.1
  · have G := T.2.1 j hj
    rw [z_up_k (k := 81) (a := 79 + 1) _ _ (by omega), z_up_k (k := 81) (a := 79 + 3) _ _ (by omega), z_up_k (k := 81) (a := 79 + 4) _ _ (by omega), z_up_k (k := 62) (a := 55) _ _ (by omega), z_up_k (k := 62) (a := 63) _ _ (by omega), z_up_k (k := 62) (a := 64) _ _ (by omega), hC _ _ (by omega) (by omega) (by omega) (by omega), hC _ _ (by omega) (by omega) (by omega) (by omega), hC _ _ (by omega) (by omega) (by omega) (by omega), hR _ _ (by omega) (by omega) (by omega), hR _ _ (by omega) (by omega) (by omega), hR _ _ (by omega) (by omega) (by omega)]
    by_cases e : j = u
    · subst e
      rw [show 79 + 2 = 81 from rfl, z_up_s, z_up_s]
      exact ⟨⟨G.1.1, rfl, G.1.2.2⟩, hg, G.2.2⟩
    · rw [show 79 + 2 = 81 from rfl, z_up_j _ _ e, z_up_j _ _ e, hC _ _ (by omega) (by omega) (by omega) (by omega), hR _ _ (by omega) (by omega) (by omega)]
      exact G
  · rw [z_up_k _ _ (by omega), z_up_k _ _ (by omega), hC _ _ (by omega) (by omega) (by omega) (by omega), hR _ _ (by omega) (by omega) (by omega)]; exact T.2.2.1
  · rw [z_up_k _ _ (by omega), hR _ _ (by omega) (by omega) (by omega)]; exact T.2.2.2
theorem yj_tL {sz u : Nat} {b : Bool} {C1 R1 C' R' : Nat → Nat → Int32} (h : yj_L sz b C1 R1) (hC : yj_tC u C1 C') (hR : yj_tR u R1 R') (g : Int32) : yj_L sz b (z_up C' 81 u g) (z_up R' 62 u g) := by
  have zc : z_cd b ≠ 81 ∧ z_cd b ≠ 32 ∧ z_cd b ≠ 17 ∧ z_cd b ≠ 13 := by cases b <;> decide
  refine yj_Lf h ?_ (funext fun j => ?_) ?_ (funext fun j => ?_)
  · rw [z_up_k _ _ (by omega)]; exact hC _ _ (by omega) (by omega) (by omega) (by omega)
  · rw [z_up_k _ _ zc.1]; exact hC _ _ zc.2.1 (Or.inl zc.1) zc.2.2.1 (Or.inl zc.2.2.2)
  · rw [z_up_k _ _ (by omega)]; exact hR _ _ (by omega) (by omega) (by omega)
  · rw [z_up_k _ _ (by omega)]; exact hR _ _ (by omega) (by omega) (by omega)
/-- the odds by the umpire's grudge -/
def yj_oV (R1 : Nat → Nat → Int32) (a e u : Nat) (g : Int32) : Int32 := f_X9_oddsOf (z_up R1 62 u g) a e u
theorem yj_oVE {np sz : Nat} {b : Bool} {C1 R1 C' R' : Nat → Nat → Int32} (T : yj_T np 79 C1 R1) (Lw : yj_L sz b C1 R1) {a e u : Nat} (ha : a < np) (he : e < np) (hu : u < np) (hd : a ≠ e ∧ a ≠ u ∧ e ≠ u) (hC : yj_tC u C1 C') (hR : yj_tR u R1 R') {g : Int32} (hg : yj_r 99 g) : f_X1_oddsOn b (z_up C' 81 u g) sz 79 (nI a) (nI e) (nI u) = yj_oV R1 a e u g ∧ f_X9_oddsOf (z_up R' 62 u g) a e u = yj_oV R1 a e u g := by
  have rfC : yj_tC u C1 C1 := fun _ _ _ _ _ _ => rfl
  have rfR : yj_tR u R1 R1 := fun _ _ _ _ _ => rfl
  have h1 := yj_oddsG (yj_tT T hC rfR hg) (yj_tL Lw hC rfR g) (Or.inr (by decide)) ha he hu hd
  have h2 := yj_oddsG (yj_tT T rfC rfR hg) (yj_tL Lw rfC rfR g) (Or.inr (by decide)) ha he hu hd
  have h3 := yj_oddsG (yj_tT T rfC hR hg) (yj_tL Lw rfC hR g) (Or.inr (by decide)) ha he hu hd
  exact ⟨h1, h3.symm.trans h2⟩
def yj_mx (v x : Int32) : Int32 := if v < x then x else v
def yj_mn (v x : Int32) : Int32 := if x < v then x else v
/-- what comes of turns: m left, o: the one's turn -/
def yj_V (oV : Int32 → Int32) : Nat → Int32 → Int32 → Int32
  | 0, _, g => oV g
  | m + 1, o, g => if o = 0 then yj_mn (yj_mn (yj_mn 12 (yj_V oV m 1 (f_X9_soured g 0))) (yj_V oV m 1 (f_X9_soured g 1))) (yj_V oV m 1 (f_X9_soured g 2)) else yj_mx (yj_mx (yj_mx 0 (yj_V oV m 0 (f_X9_soured g 0))) (yj_V oV m 0 (f_X9_soured g 1))) (yj_V oV m 0 (f_X9_soured g 2))
def yj_p12 (x : Int32) : Prop := ∃ p : Nat, p ≤ 12 ∧ x = nI p
theorem yj_mxP {x y : Int32} (hx : yj_p12 x) (hy : yj_p12 y) : yj_p12 (yj_mx x y) := by unfold yj_mx; split; exact hy; exact hx
theorem yj_mnP {x y : Int32} (hx : yj_p12 x) (hy : yj_p12 y) : yj_p12 (yj_mn x y) := by unfold yj_mn; split; exact hy; exact hx
theorem yj_VP {oV : Int32 → Int32} (h : ∀ g, yj_p12 (oV g)) : ∀ (m : Nat) (o g : Int32), yj_p12 (yj_V oV m o g)
  | 0, _, g => h g
  | m + 1, o, g => by
    unfold yj_V
    split
    · exact yj_mnP (yj_mnP (yj_mnP ⟨12, by omega, rfl⟩ (yj_VP h m _ _)) (yj_VP h m _ _)) (yj_VP h m _ _)
    · exact yj_mxP (yj_mxP (yj_mxP ⟨0, by omega, rfl⟩ (yj_VP h m _ _)) (yj_VP h m _ _)) (yj_VP h m _ _)
theorem yj_mvS : ∀ n : Nat, n < 100 → (f_X6_moved (nI n) (nI 0) = f_X9_soured (nI n) 0 ∧ f_X9_soured (nI n) 0 = nI (n - 20)) ∧ (f_X6_moved (nI n) (nI 1) = f_X9_soured (nI n) 1 ∧ f_X9_soured (nI n) 1 = nI (min 99 (n + 20))) ∧ (f_X6_moved (nI n) (nI 2) = f_X9_soured (nI n) 2 ∧ f_X9_soured (nI n) 2 = nI n) := by decide +kernel
theorem yj_mv {g : Int32} (hg : yj_r 99 g) : (f_X6_moved g (nI 0) = f_X9_soured g 0 ∧ yj_r 99 (f_X9_soured g 0)) ∧ (f_X6_moved g (nI 1) = f_X9_soured g 1 ∧ yj_r 99 (f_X9_soured g 1)) ∧ (f_X6_moved g (nI 2) = f_X9_soured g 2 ∧ yj_r 99 (f_X9_soured g 2) ∧ f_X9_soured g 2 = g) := by
  obtain ⟨n, hn, rfl⟩ := hg
  have h := yj_mvS n (by omega)
  exact ⟨⟨h.1.1, by rw [h.1.2]; exact yj_rn (by omega)⟩, ⟨h.2.1.1, by rw [h.2.1.2]; exact yj_rn (by omega)⟩, h.2.2.1, by rw [h.2.2.2]; exact yj_rn hn, h.2.2.2⟩
/-- the class's store between -/
def yj_cI (R1 C1 : Nat → Nat → Int32) (a e u : Nat) (C' : Nat → Nat → Int32) : Prop := yj_tC u C1 C' ∧ ∀ g, g < 100 → C' 32 g = (-1) ∨ C' 32 g = yj_oV R1 a e u (nI g)
theorem yj_oAt {np sz : Nat} {b : Bool} {C1 R1 C' : Nat → Nat → Int32} {abu : Int32} (T : yj_T np 79 C1 R1) (Lw : yj_L sz b C1 R1) {a e u : Nat} (ha : a < np) (he : e < np) (hu : u < np) (hd : a ≠ e ∧ a ≠ u ∧ e ≠ u) (ea : abu / 100 = nI a) (ee : (abu / 10) - (abu / 10) / 10 * 10 = nI e) (eu : abu - abu / 10 * 10 = nI u) (h31 : C1 31 1 = abu) (hI : yj_cI R1 C1 a e u C') {g : Int32} (hg : yj_r 99 g) : f_X6_oddsAt b C' sz g = yj_oV R1 a e u g ∧ yj_cI R1 C1 a e u (m_X6_oddsAt b C' sz g) := by
  have hn := T.1.2.2
  obtain ⟨n, hn9, rfl⟩ := hg
  have c31 : C' 31 1 = abu := (hI.1 31 1 (by omega) (by omega) (by omega) (by omega)).trans h31
  have b0 : ∀ k : Nat, C' 79 0 = nI np := fun _ => (hI.1 79 0 (by omega) (by omega) (by omega) (by omega)).trans T.1.1
  have eB : m_X7_become C' 79 (nI u) 1 (nI n) = z_up C' 81 u (nI n) := by
    unfold m_X7_become
    rw [yj_has hn (b0 0), if_neg (by decide), if_neg (by decide), if_neg (by rw [yj_oneN hn hu]; decide), if_neg (by decide), if_pos rfl, nI_clamp (by omega)]
  have m31 : z_up C' 81 u (nI n) 31 1 = abu := (z_up_k _ _ (by omega)).trans c31
  have cn : (nI n).toNatClampNeg = n := nI_clamp (by omega)
  have lt : nI n < 100 := nI_lt (b := 100) (by omega) (by omega)
  unfold f_X6_oddsAt m_X6_oddsAt
  rw [if_neg (nI_pos (by omega)), if_neg (nI_pos (by omega)), if_pos lt, if_pos lt, cn, c31, eu, eB, m31, ee, ea, eu]
  have E := yj_oVE T Lw ha he hu hd hI.1 (R' := R1) (fun _ _ _ _ _ => rfl) (g := nI n) (yj_rn hn9)
  rcases hI.2 n (by omega) with q | q
  · rw [if_pos q, if_pos q, E.1]
    refine ⟨rfl, fun x j x1 x2 x3 x4 => ?_, fun g hg => ?_⟩
    · rw [z_up_k _ _ x1, z_ooO _ _ _ _ _ _ _ _ _ x3 x4]
      have : z_up C' 81 u (nI n) x j = C' x j := by
        unfold z_up
        by_cases p : x = 81
        · rw [if_pos p, if_neg (by omega)]
        · rw [if_neg p]
      rw [this]
      exact hI.1 x j x1 x2 x3 x4
    · by_cases p : g = n
      · rw [p, z_up_s]; exact Or.inr rfl
      · rw [z_up_j _ _ p, z_ooO _ _ _ _ _ _ _ _ _ (by omega) (by omega), z_up_k _ _ (by omega)]
        exact hI.2 g hg
  · have hv : yj_p12 (yj_oV R1 a e u (nI n)) := z_oo12 _ _ _ _
    have n1 : ¬ C' 32 n = (-1) := fun p => by
      obtain ⟨k, hk, ek⟩ := hv
      rw [q, ek] at p
      exact nI_pos (n := k) (by omega) (by rw [p]; decide)
    rw [if_neg n1, if_neg n1]
    exact ⟨q, hI⟩
theorem yj_btV {np sz : Nat} {b : Bool} {C1 R1 : Nat → Nat → Int32} {abu : Int32} (T : yj_T np 79 C1 R1) (Lw : yj_L sz b C1 R1) {a e u : Nat} (ha : a < np) (he : e < np) (hu : u < np) (hd : a ≠ e ∧ a ≠ u ∧ e ≠ u) (ea : abu / 100 = nI a) (ee : (abu / 10) - (abu / 10) / 10 * 10 = nI e) (eu : abu - abu / 10 * 10 = nI u) (h31 : C1 31 1 = abu) : ∀ (m : Nat) (o g : Int32) (C' : Nat → Nat → Int32), m ≤ 5 → yj_cI R1 C1 a e u C' → yj_r 99 g → (yq_bt b sz m o g C').1 = yj_V (yj_oV R1 a e u) m o g ∧ yj_cI R1 C1 a e u (yq_bt b sz m o g C').2
  | 0, o, g, C', _, hI, hg => by
    have k := yj_oAt T Lw ha he hu hd ea ee eu h31 hI hg
    show f_X6_best b C' sz g 0 o (fun _ _ K => (0, K)) = _ ∧ yj_cI R1 C1 a e u (m_X6_best b C' sz g 0 o (fun _ _ K => (0, K)))
    unfold f_X6_best m_X6_best
    rw [if_pos (by decide), if_pos (by decide)]
    exact k
  | m + 1, o, g, C', hm, hI, hg => by
    have IH := yj_btV T Lw ha he hu hd ea ee eu h31 m
    have M := yj_mv hg
    have m5 : nI (m + 1) ≤ 5 := nI_le (b := 5) hm (by omega)
    have m0 : ¬ nI (m + 1) ≤ 0 := nI_nle (by omega) (by omega)
    show f_X6_best b C' sz g (m + 1) o (yq_bt b sz m) = _ ∧ yj_cI R1 C1 a e u (m_X6_best b C' sz g (m + 1) o (yq_bt b sz m))
    unfold f_X6_best m_X6_best yj_V
    rw [if_neg m0, if_neg m0, if_pos m5, if_pos m5]
    by_cases o0 : o = 0
    · rw [if_pos o0, if_pos o0, if_pos o0]
      obtain ⟨x0, y0⟩ := IH 1 (f_X9_soured g 0) C' (by omega) hI M.1.2
      obtain ⟨x1, y1⟩ := IH 1 (f_X9_soured g 1) _ (by omega) y0 M.2.1.2
      obtain ⟨x2, y2⟩ := IH 1 (f_X9_soured g 2) _ (by omega) y1 M.2.2.2.1
      rw [gx_X6_best_32, if_pos o0, M.1.1, x0]
      rw [gx_X6_best_32, if_pos o0, M.2.1.1, x1]
      rw [gx_X6_best_32, if_pos o0, M.2.2.1, x2]
      exact ⟨rfl, y2⟩
    · rw [if_neg o0, if_neg o0, if_neg o0]
      obtain ⟨x0, y0⟩ := IH 0 (f_X9_soured g 0) C' (by omega) hI M.1.2
      obtain ⟨x1, y1⟩ := IH 0 (f_X9_soured g 1) _ (by omega) y0 M.2.1.2
      obtain ⟨x2, y2⟩ := IH 0 (f_X9_soured g 2) _ (by omega) y1 M.2.2.2.1
      rw [gx_X6_best_32, if_neg o0, M.1.1, x0]
      rw [gx_X6_best_32, if_neg o0, M.2.1.1, x1]
      rw [gx_X6_best_32, if_neg o0, M.2.2.1, x2]
      exact ⟨rfl, y2⟩
theorem yj_mx0 {x : Int32} (h : yj_p12 x) : yj_mx 0 x = x := by
  obtain ⟨p, hp, rfl⟩ := h
  unfold yj_mx
  by_cases q : p = 0
  · subst q; rw [if_neg (by decide)]; rfl
  · rw [if_pos (show (0 : Int32) < nI p from nI_lt (a := 0) (by omega) (by omega))]
theorem yj_mn12 {x : Int32} (h : yj_p12 x) : yj_mn 12 x = x := by
  obtain ⟨p, hp, rfl⟩ := h
  unfold yj_mn
  by_cases q : p = 12
  · subst q; rw [if_neg (by decide)]; rfl
  · rw [if_pos (show nI p < (12 : Int32) from nI_lt (b := 12) (by omega) (by omega))]
theorem yj_mxR (v x : Int32) : (if x ≤ v then v else x) = yj_mx v x := by
  unfold yj_mx
  by_cases h : v < x
  · rw [if_pos h, if_neg (Int32.not_le.mpr h)]
  · rw [if_neg h, if_pos (Int32.not_lt.mp h)]
theorem yj_mnR (v x : Int32) : (if v ≤ x then v else x) = yj_mn v x := by
  unfold yj_mn
  by_cases h : x < v
  · rw [if_pos h, if_neg (Int32.not_le.mpr h)]
  · rw [if_neg h, if_pos (Int32.not_lt.mp h)]
theorem yj_pfV {np sz : Nat} {b : Bool} {C1 R1 : Nat → Nat → Int32} {abu : Int32} (T : yj_T np 79 C1 R1) (Lw : yj_L sz b C1 R1) {a e u : Nat} (ha : a < np) (he : e < np) (hu : u < np) (hd : a ≠ e ∧ a ≠ u ∧ e ≠ u) (ea : abu / 100 = nI a) (ee : (abu / 10) - (abu / 10) / 10 * 10 = nI e) (eu : abu - abu / 10 * 10 = nI u) (n : Nat) (hn5 : n ≤ 5) : ∀ (m : Nat) (g : Int32) (R' : Nat → Nat → Int32), m ≤ n → yj_tR u R1 R' → yj_r 99 g → (z_pf abu n m g R').1 = yj_V (yj_oV R1 a e u) m (if (n - m) % 2 = 0 then 1 else 0) g ∧ yj_tR u R1 (z_pf abu n m g R').2
  | 0, g, R', _, hR, hg => by
    have hn := T.1.2.2
    have ca : (nI a).toNatClampNeg = a := nI_clamp (by omega)
    have ce : (nI e).toNatClampNeg = e := nI_clamp (by omega)
    have cu : (nI u).toNatClampNeg = u := nI_clamp (by omega)
    show f_X9_playsFrom R' (fun _ K => (0, K)) abu n n g = _ ∧ yj_tR u R1 (m_X9_playsFrom R' (fun _ K => (0, K)) abu n n g)
    unfold f_X9_playsFrom m_X9_playsFrom
    rw [if_pos rfl, if_pos rfl, ee, ea, eu, ca, ce, cu]
    refine ⟨(yj_oVE T Lw ha he hu hd (C' := C1) (fun _ _ _ _ _ _ => rfl) hR hg).2, fun x j q1 q2 q3 => ?_⟩
    rw [z_ooF _ _ _ _ _ _ q1 q2]
    have : z_up R' 62 u g x j = R' x j := by
      unfold z_up
      by_cases p : x = 62
      · rw [if_pos p, if_neg (by omega)]
      · rw [if_neg p]
    rw [this]
    exact hR x j q1 q2 q3
  | m + 1, g, R', hm, hR, hg => by
    have IH := yj_pfV T Lw ha he hu hd ea ee eu n hn5 m
    have M := yj_mv hg
    have VP := yj_VP (oV := yj_oV R1 a e u) (fun g => z_oo12 _ _ _ _) m
    have kn : ¬ nI (n - (m + 1)) = nI n := fun q => absurd ((nI_eq (by omega) (by omega)).mp q) (by omega)
    show f_X9_playsFrom R' (z_pf abu n m) abu (n - (m + 1)) n g = _ ∧ yj_tR u R1 (m_X9_playsFrom R' (z_pf abu n m) abu (n - (m + 1)) n g)
    unfold f_X9_playsFrom m_X9_playsFrom yj_V
    rw [if_neg kn, if_neg kn]
    obtain ⟨x0, y0⟩ := IH (f_X9_soured g 0) R' (by omega) hR M.1.2
    obtain ⟨x1, y1⟩ := IH (f_X9_soured g 1) _ (by omega) y0 M.2.1.2
    obtain ⟨x2, y2⟩ := IH (f_X9_soured g 2) _ (by omega) y1 M.2.2.2.1
    have rem : nI (n - (m + 1)) - nI (n - (m + 1)) / 2 * 2 = nI ((n - (m + 1)) % 2) := pk_rem (d := 2) (by omega) (by omega) (by omega)
    have pos : ∀ {x : Int32}, yj_p12 x → 0 ≤ x := fun {x} h => by obtain ⟨p, hp, rfl⟩ := h; exact nI_pos' (by omega)
    by_cases ev : (n - (m + 1)) % 2 = 0
    · have od : ¬ (n - m) % 2 = 0 := by omega
      rw [if_neg od] at x0 x1 x2
      rw [if_pos ev, if_neg (show ¬ (1 : Int32) = 0 by decide), yj_mx0 (VP _ _)]
      have z : nI (n - (m + 1)) - nI (n - (m + 1)) / 2 * 2 = 0 := by rw [rem, ev]; rfl
      have st : ∀ (r t : Nat) (v : Int32) (J : Nat → Nat → Int32), 0 ≤ v → gx_X9_playsFrom_42 (z_pf abu n m) (n - (m + 1)) g (r + 1) t v J = gx_X9_playsFrom_42 (z_pf abu n m) (n - (m + 1)) g r (t + 1) (yj_mx v (z_pf abu n m (f_X9_soured g (nI t)) J).1) (z_pf abu n m (f_X9_soured g (nI t)) J).2 := by
        intro r t v J hv
        rw [gx_X9_playsFrom_42, if_pos hv, if_pos z, ← yj_mxR]
        by_cases q : (z_pf abu n m (f_X9_soured g (nI t)) J).1 ≤ v
        · rw [if_pos q, if_pos q]
        · rw [if_neg q, if_neg q]
      rw [gx_X9_playsFrom_42, if_neg (by decide), show nI 0 = 0 from rfl, x0, st 1 (0 + 1) _ _ (pos (VP _ _)), show nI (0 + 1) = 1 from rfl, x1, st 0 (0 + 1 + 1) _ _ (pos (yj_mxP (VP _ _) (VP _ _))), show nI (0 + 1 + 1) = 2 from rfl, x2]
      exact ⟨rfl, y2⟩
    · have od : (n - m) % 2 = 0 := by omega
      rw [if_pos od] at x0 x1 x2
      rw [if_neg ev, if_pos (show (0 : Int32) = 0 from rfl), yj_mn12 (VP _ _)]
      have z : ¬ nI (n - (m + 1)) - nI (n - (m + 1)) / 2 * 2 = 0 := by rw [rem]; exact nI_ne0 (by omega) (by omega)
      have st : ∀ (r t : Nat) (v : Int32) (J : Nat → Nat → Int32), 0 ≤ v → gx_X9_playsFrom_42 (z_pf abu n m) (n - (m + 1)) g (r + 1) t v J = gx_X9_playsFrom_42 (z_pf abu n m) (n - (m + 1)) g r (t + 1) (yj_mn v (z_pf abu n m (f_X9_soured g (nI t)) J).1) (z_pf abu n m (f_X9_soured g (nI t)) J).2 := by
        intro r t v J hv
        rw [gx_X9_playsFrom_42, if_pos hv, if_neg z, ← yj_mnR]
        by_cases q : v ≤ (z_pf abu n m (f_X9_soured g (nI t)) J).1
        · rw [if_pos q, if_pos q]
        · rw [if_neg q, if_neg q]
      rw [gx_X9_playsFrom_42, if_neg (by decide), show nI 0 = 0 from rfl, x0, st 1 (0 + 1) _ _ (pos (VP _ _)), show nI (0 + 1) = 1 from rfl, x1, st 0 (0 + 1 + 1) _ _ (pos (yj_mnP (VP _ _) (VP _ _))), show nI (0 + 1 + 1) = 2 from rfl, x2]
      exact ⟨rfl, y2⟩
theorem yj_bg32 (C : Nat → Nat → Int32) (np : Nat) (ab : Int32) : ∀ i j : Nat, j < i → g_X6_begin_31 C np ab i 32 j = (-1)
  | 0, j, h => absurd h (Nat.not_lt_zero _)
  | i + 1, j, h => by
    show gb_X6_begin_31 C np ab i (g_X6_begin_31 C np ab i) 32 j = (-1)
    unfold gb_X6_begin_31
    by_cases q : j = i
    · rw [q, z_up_s]
    · rw [z_up_j _ _ q]; exact yj_bg32 C np ab i j (by omega)
theorem yj_bg31 (C : Nat → Nat → Int32) (np : Nat) (ab : Int32) (a j : Nat) (h : a ≠ 32) : ∀ i : Nat, g_X6_begin_31 C np ab i a j = g_X6_begin_31 C np ab 0 a j
  | 0 => rfl
  | i + 1 => by
    show gb_X6_begin_31 C np ab i (g_X6_begin_31 C np ab i) a j = _
    unfold gb_X6_begin_31
    rw [z_up_k _ _ h]; exact yj_bg31 C np ab a j h i
theorem yj_s_byTurns {b : Bool} {np nq dn km tm sz bo rn : Nat} {C R : Nat → Nat → Int32} {CL RL : Nat → Nat → Int64} (h : yj_J b np nq dn km tm sz bo rn C R CL RL) (abu n what : Int32) : f_X8_byTurns b C np sz abu n what = f_X9_byTurns R np abu n what ∧ yj_B b (m_X8_byTurns b C np sz abu n what) (m_X9_byTurns R np abu n what) CL RL := by
  have hn := yj_Y2 h.1
  unfold f_X8_byTurns f_X9_byTurns m_X8_byTurns m_X9_byTurns
  rw [yj_isThree hn h.1.1.1, yj_w15]
  by_cases o : f_X9_isAbu np abu = 0
  · simp only [o, reduceIte]; exact ⟨trivial, yj_mk h⟩
  · by_cases n1 : n < 1
    · simp only [o, n1, reduceIte]; exact ⟨trivial, yj_mk h⟩
    · by_cases n5 : 5 < n
      · simp only [o, n1, n5, reduceIte]; exact ⟨trivial, yj_mk h⟩
      · by_cases pt : f_X9_within what.toInt64 0 1 = 0
        · have w0 : ¬ what = 0 := fun q => by rw [q] at pt; exact absurd pt (by decide)
          have w1 : ¬ what = 1 := fun q => by rw [q] at pt; exact absurd pt (by decide)
          simp only [o, n1, n5, pt, w0, w1, yj_d10, reduceIte]; exact ⟨trivial, yj_mk h⟩
        · obtain ⟨a, e, u, ⟨ha, he, hu⟩, hd, ea, ee, eu⟩ := yj_abu hn o
          have cu : (nI u).toNatClampNeg = u := nI_clamp (by omega)
          simp only [o, n1, n5, pt, yj_d10, reduceIte]
          -- both begin
          have F2 := yj_bgR R np
          have T0 := yj_Y79 h.1
          have Ru := yj_beg R np
          have g55 : m_X9_begins R np 55 (10 + u) = m_X9_begins R np 62 u := by
            rw [(Ru.2.1 u hu).1, yj_begF _ _ _ _ (Or.inl (by unfold yj_kR; omega))]
          have G := (T0.2.1 u hu).2.1
          have cB : ∀ x j, x ≠ 31 → x ≠ 32 → m_X6_begin C np abu x j = m_X7_copyAll_79 C np x j := fun x j q1 q2 => yq_bgA (np := np) _ abu x j q1 q2 100
          have b2 : m_X6_begin C np abu 31 1 = abu := by
            unfold m_X6_begin
            rw [yj_bg31 _ _ _ _ _ (by omega)]
            show z_up _ 31 2 _ 31 1 = abu
            rw [z_up_j _ _ (by decide), z_up_s]
          have b3 : m_X6_begin C np abu 31 2 = m_X9_begins R np 62 u := by
            unfold m_X6_begin
            rw [yj_bg31 _ _ _ _ _ (by omega)]
            show z_up _ 31 2 _ 31 2 = _
            rw [z_up_s, eu]
            unfold f_X7_numberOf
            rw [yj_has hn (by rw [z_up_k _ _ (by omega)]; exact T0.1.1), if_neg (by decide), if_neg (by decide), if_neg (by rw [yj_oneN hn hu]; decide), if_neg (by decide), if_pos rfl, cu, z_up_k _ _ (by omega)]
            exact (T0.2.1 u hu).1.2.1
          have b32 : ∀ g, g < 100 → m_X6_begin C np abu 32 g = (-1) := fun g hg => yj_bg32 _ _ _ 100 g hg
          have T1 : yj_T np 79 (m_X6_begin C np abu) (m_X9_begins R np) := yj_Tf T0 (fun x j q1 q2 => cB x j (by omega) (by omega)) (cB _ _ (by omega) (by omega)) (cB _ _ (by omega) (by omega)) rfl rfl (fun _ _ => rfl) (fun _ _ _ _ => rfl)
          have F3 : ∀ x j, x < 54 → yj_kC x j → m_X6_begin C np abu x j = C x j := fun x j q0 q => (cB x j (by unfold yj_kC at q; omega) (by unfold yj_kC at q; omega)).trans (z_cpF79 C np x j (Or.inl (by omega)))
          have L1 : yj_L sz b (m_X6_begin C np abu) (m_X9_begins R np) := yj_Lf h.2.2.2.2.1 (F3 13 4 (by omega) (by unfold yj_kC; omega)) (funext fun j => F3 _ j (by cases b <;> decide) (by cases b; exact Or.inr (Or.inr (Or.inr (Or.inl rfl))); exact Or.inr (Or.inr (Or.inr (Or.inr (Or.inl rfl)))))) (F2 54 10 (Or.inl (by unfold yj_kR; omega))) (funext fun j => F2 60 j (Or.inl (by unfold yj_kR; omega)))
          rw [eu, cu, g55]
          generalize m_X9_begins R np 62 u = g at b3 G ⊢
          generalize m_X6_begin C np abu = C1 at b2 b3 b32 T1 F3 L1 ⊢
          have hI0 : yj_cI (m_X9_begins R np) C1 a e u C1 := ⟨fun _ _ _ _ _ _ => rfl, fun g hg => Or.inl (b32 g hg)⟩
          have hR0 : yj_tR u (m_X9_begins R np) (m_X9_begins R np) := fun _ _ _ _ _ => rfl
          obtain ⟨N, hN, rfl⟩ := yj_rc (x := n) (N := 5) (c := 5) (by omega) rfl (fun q => n1 (by rw [Int32.lt_iff_toInt_lt] at q ⊢; rw [show (0 : Int32).toInt = 0 from rfl] at q; rw [show (1 : Int32).toInt = 1 from rfl]; omega)) n5
          have N1 : 0 < N := by
            rcases Nat.eq_zero_or_pos N with q | q
            · rw [q] at n1; exact absurd (by decide) n1
            · exact q
          rw [nI_clamp (by omega)]
          have toB : ∀ (C' R' : Nat → Nat → Int32), yj_cI (m_X9_begins R np) C1 a e u C' → yj_tR u (m_X9_begins R np) R' → yj_B b C' R' CL RL := fun C' R' h1 h2 => yj_mk (yj_Jf h (fun x j q0 q => (h1.1 x j (by unfold yj_kC at q; omega) (by omega) (by unfold yj_kC at q; omega) (by unfold yj_kC at q; omega)).trans (F3 x j q0 q)) (fun x j q => (h2 x j (by unfold yj_kR at q; omega) (by unfold yj_kR at q; omega) (by unfold yj_kR at q; omega)).trans (F2 x j (Or.inl q))) (fun _ _ _ _ => rfl) (fun _ => rfl))
          have BT := yj_btV T1 L1 ha he hu hd ea ee eu b2
          have PF := yj_pfV T1 L1 ha he hu hd ea ee eu N hN
          obtain ⟨p1, p2⟩ := PF N g (m_X9_begins R np) (Nat.le_refl _) hR0 G
          rw [Nat.sub_self, if_pos (show 0 % 2 = 0 from rfl)] at p1
          by_cases w0 : what = 0
          · rw [if_pos w0, if_pos w0, if_pos w0, if_pos w0]
            unfold f_X6_bestOdds m_X6_bestOdds
            rw [b3, p1]
            obtain ⟨c1, c2⟩ := BT N 1 g C1 hN hI0 G
            exact ⟨c1, toB _ _ c2 p2⟩
          · have w1 : what = 1 := by
              rcases yj_partC pt with q | q
              · exact absurd q w0
              · exact q
            rw [if_neg w0, if_neg w0, if_neg w0, if_neg w0, if_pos w1, if_pos w1]
            have M := yj_mv G
            obtain ⟨r1, r2⟩ := PF (N - 1) g _ (by omega) p2 G
            obtain ⟨s1, s2⟩ := PF (N - 1) (f_X9_soured g 0) _ (by omega) r2 M.1.2
            have odd : ¬ (N - (N - 1)) % 2 = 0 := by omega
            rw [if_neg odd] at r1 s1
            rw [p1, r1, s1]
            unfold f_X6_bestFirst m_X6_bestFirst
            obtain ⟨M0, M1, M2⟩ := M
            -- the class's three tries
            obtain ⟨x0, y0⟩ := BT (N - 1) 0 (f_X9_soured g 2) C1 (by omega) hI0 M2.2.1
            obtain ⟨x1, y1⟩ := BT (N - 1) 0 (f_X9_soured g 0) _ (by omega) y0 M0.2
            obtain ⟨x2, y2⟩ := BT (N - 1) 0 (f_X9_soured g 1) _ (by omega) y1 M1.2
            have g3 : ∀ C', yj_cI (m_X9_begins R np) C1 a e u C' → C' 31 2 = g := fun C' hI => (hI.1 31 2 (by omega) (by omega) (by omega) (by omega)).trans b3
            have VP := yj_VP (oV := yj_oV (m_X9_begins R np) a e u) (fun g => z_oo12 _ _ _ _) (N - 1) 0
            have W : yj_V (yj_oV (m_X9_begins R np) a e u) N 1 g = yj_mx (yj_mx (yj_V (yj_oV (m_X9_begins R np) a e u) (N - 1) 0 (f_X9_soured g 0)) (yj_V (yj_oV (m_X9_begins R np) a e u) (N - 1) 0 (f_X9_soured g 1))) (yj_V (yj_oV (m_X9_begins R np) a e u) (N - 1) 0 g) := by
              obtain ⟨k, rfl⟩ : ∃ k, N = k + 1 := ⟨N - 1, by omega⟩
              rw [Nat.add_sub_cancel] at VP ⊢
              rw [yj_V, if_neg (show ¬ (1 : Int32) = 0 by decide), yj_mx0 (VP _), M2.2.2]
            have x0 := x0.trans (congrArg (yj_V _ (N - 1) 0) M2.2.2)
            have t0 : z_t0 0 = nI 2 := rfl
            have t1 : z_t0 1 = nI 0 := rfl
            have t2 : z_t0 2 = nI 1 := rfl
            have e0 : (yq_bt b sz (N - 1) 0 (f_X6_moved (C1 31 2) (z_t0 0)) C1) = (yq_bt b sz (N - 1) 0 (f_X9_soured g 2) C1) := by rw [b3, t0, M2.1]
            obtain ⟨k2, hk2, ek2⟩ := VP g
            obtain ⟨k0, hk0, ek0⟩ := VP (f_X9_soured g 0)
            obtain ⟨k1, hk1, ek1⟩ := VP (f_X9_soured g 1)
            rw [gx_X6_bestFirst_8, e0]
            generalize yq_bt b sz (N - 1) 0 (f_X9_soured g 2) C1 = B0 at x0 y0 x1 y1 x2 y2 ⊢
            have e1 : (yq_bt b sz (N - 1) 0 (f_X6_moved (B0.2 31 2) (z_t0 (0 + 1))) B0.2) = (yq_bt b sz (N - 1) 0 (f_X9_soured g 0) B0.2) := by rw [g3 _ y0, show z_t0 (0 + 1) = nI 0 from rfl, M0.1]
            rw [x0, ek2, if_neg (show ¬ nI k2 ≤ -1 by
              rw [Int32.le_iff_toInt_le, nI_toInt (by omega), show (-1 : Int32).toInt = -1 from rfl]
              omega)]
            rw [gx_X6_bestFirst_8, e1]
            generalize yq_bt b sz (N - 1) 0 (f_X9_soured g 0) B0.2 = B1 at x1 y1 x2 y2 ⊢
            have e2 : (yq_bt b sz (N - 1) 0 (f_X6_moved (B1.2 31 2) (z_t0 (0 + 1 + 1))) B1.2) = (yq_bt b sz (N - 1) 0 (f_X9_soured g 1) B1.2) := by rw [g3 _ y1, show z_t0 (0 + 1 + 1) = nI 1 from rfl, M1.1]
            rw [W, ek0, ek1, ek2, x1, ek0]
            have mx : ∀ x y : Nat, x ≤ 12 → y ≤ 12 → yj_mx (nI x) (nI y) = nI (max x y) := by
              intro x y hx hy
              unfold yj_mx
              by_cases q : x < y
              · rw [if_pos (nI_lt q (by omega)), Nat.max_eq_right (by omega)]
              · rw [if_neg (nI_nlt (by omega) (by omega)), Nat.max_eq_left (by omega)]
            rw [mx k0 k1 hk0 hk1, mx (max k0 k1) k2 (by omega) hk2]
            have fin2 : ∀ (v2 v3 : Int32), gx_X6_bestFirst_8 b sz N 1 (0 + 1 + 1) v2 v3 B1.2 = (if nI k1 ≤ v3 then v2 else nI 1, (yq_bt b sz (N - 1) 0 (f_X9_soured g 1) B1.2).2) := by
              intro v2 v3
              rw [gx_X6_bestFirst_8, e2, x2, ek1]
              by_cases q : nI k1 ≤ v3
              · rw [if_pos q, if_pos q]; rfl
              · rw [if_neg q, if_neg q]; rfl
            simp only [fin2]
            have le : ∀ {x y : Nat}, x ≤ y → y ≤ 12 → nI x ≤ nI y := fun q q2 => nI_le q (by omega)
            have nle : ∀ {x y : Nat}, y < x → x ≤ 12 → ¬ nI x ≤ nI y := fun {x y} (q : y < x) (q2 : x ≤ 12) (w : nI x ≤ nI y) => by rw [Int32.le_iff_toInt_le, nI_toInt (by omega), nI_toInt (by omega)] at w; omega
            have eq : ∀ {x y : Nat}, x = y → nI x = nI y := fun q => by rw [q]
            have ne : ∀ {x y : Nat}, x ≠ y → x ≤ 12 → y ≤ 12 → ¬ nI x = nI y := fun q q2 q3 w => q ((nI_eq (by omega) (by omega)).mp w)
            have Z0 : z_t0 0 = 2 := rfl
            have Z1 : z_t0 (0 + 1) = 0 := rfl
            have Z2 : nI 1 = 1 := rfl
            rw [Z0, Z1, Z2]
            by_cases q2 : k0 ≤ k2
            · rw [if_pos (le q2 hk2)]
              by_cases q3 : k1 ≤ k2
              · rw [if_pos (le q3 hk2), if_pos (eq (show k2 = max (max k0 k1) k2 by omega)), if_pos (eq (show k2 = max (max k0 k1) k2 by omega))]
                exact ⟨rfl, toB _ _ y2 r2⟩
              · rw [if_neg (nle (by omega) hk1), if_neg (ne (show k2 ≠ max (max k0 k1) k2 by omega) (by omega) (by omega)), if_neg (ne (show k2 ≠ max (max k0 k1) k2 by omega) (by omega) (by omega)), if_neg (ne (show k0 ≠ max (max k0 k1) k2 by omega) (by omega) (by omega)), if_neg (ne (show k0 ≠ max (max k0 k1) k2 by omega) (by omega) (by omega))]
                exact ⟨rfl, toB _ _ y2 s2⟩
            · rw [if_neg (nle (by omega) hk0), if_neg (ne (show k2 ≠ max (max k0 k1) k2 by omega) (by omega) (by omega)), if_neg (ne (show k2 ≠ max (max k0 k1) k2 by omega) (by omega) (by omega))]
              by_cases q3 : k1 ≤ k0
              · rw [if_pos (le q3 hk0), if_pos (eq (show k0 = max (max k0 k1) k2 by omega)), if_pos (eq (show k0 = max (max k0 k1) k2 by omega))]
                exact ⟨rfl, toB _ _ y2 s2⟩
              · rw [if_neg (nle (by omega) hk1), if_neg (ne (show k0 ≠ max (max k0 k1) k2 by omega) (by omega) (by omega)), if_neg (ne (show k0 ≠ max (max k0 k1) k2 by omega) (by omega) (by omega))]
                exact ⟨rfl, toB _ _ y2 s2⟩
