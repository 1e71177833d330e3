/-! THE CLASS AGAINST THE REFERENCE: numbers and tests of numbers (new names begin with yj_) -/
theorem yj_cmpL (x y : Int64) : lg_cmp x y < 0 ↔ x < y := by
  unfold lg_cmp
  by_cases h : x > y
  · rw [if_pos h]
    have h' : y < x := h
    rw [Int64.lt_iff_toInt_lt] at h'
    constructor
    · intro q; exact absurd q (by decide)
    · intro q; rw [Int64.lt_iff_toInt_lt] at q; omega
  · rw [if_neg h]
    have h' : ¬ y < x := h
    rw [Int64.lt_iff_toInt_lt] at h'
    by_cases h2 : x = y
    · rw [if_pos h2]
      constructor
      · intro q; exact absurd q (by decide)
      · intro q; rw [Int64.lt_iff_toInt_lt, h2] at q; omega
    · rw [if_neg h2]
      have h3 : x.toInt ≠ y.toInt := fun e => h2 (Int64.toInt_inj.mp e)
      constructor
      · intro _; rw [Int64.lt_iff_toInt_lt]; omega
      · intro _; decide
theorem yj_cmpG (x y : Int64) : 0 < lg_cmp x y ↔ y < x := by
  unfold lg_cmp
  by_cases h : x > y
  · rw [if_pos h]
    exact ⟨fun _ => h, fun _ => by decide⟩
  · rw [if_neg h]
    constructor
    · intro q
      by_cases h2 : x = y
      · rw [if_pos h2] at q; exact absurd q (by decide)
      · rw [if_neg h2] at q; exact absurd q (by decide)
    · intro q; exact absurd q h
theorem yj_cmpE (x y : Int64) : lg_cmp x y = 0 ↔ x = y := by
  unfold lg_cmp
  by_cases h : x > y
  · rw [if_pos h]
    have h' : y < x := h
    rw [Int64.lt_iff_toInt_lt] at h'
    constructor
    · intro q; exact absurd q (by decide)
    · intro q; subst q; omega
  · rw [if_neg h]
    by_cases h2 : x = y
    · rw [if_pos h2]; exact ⟨fun _ => h2, fun _ => rfl⟩
    · rw [if_neg h2]; exact ⟨fun q => absurd q (by decide), fun q => absurd q h2⟩
theorem yj_inj {x y : Int32} : x.toInt64 = y.toInt64 ↔ x = y := by
  constructor
  · intro h
    have := congrArg Int64.toInt h
    rw [Int32.toInt_toInt64, Int32.toInt_toInt64] at this
    exact Int32.toInt_inj.mp this
  · intro h; rw [h]
theorem yj_wI (x a c : Int32) : f_X9_within x.toInt64 a.toInt64 c.toInt64 = if x < a then 0 else if c < x then 0 else 1 := by
  unfold f_X9_within
  simp only [yj_cmpL, yj_cmpG, Int32.toInt64_lt]
theorem yj_l0 : (0 : Int64) = (0 : Int32).toInt64 := by decide
theorem yj_l1 : (1 : Int64) = (1 : Int32).toInt64 := by decide
theorem yj_l3 : (3 : Int64) = (3 : Int32).toInt64 := by decide
theorem yj_l4 : (4 : Int64) = (4 : Int32).toInt64 := by decide
theorem yj_l5 : (5 : Int64) = (5 : Int32).toInt64 := by decide
theorem yj_l6 : (6 : Int64) = (6 : Int32).toInt64 := by decide
theorem yj_l7 : (7 : Int64) = (7 : Int32).toInt64 := by decide
theorem yj_l9 : (9 : Int64) = (9 : Int32).toInt64 := by decide
theorem yj_l10 : (10 : Int64) = (10 : Int32).toInt64 := by decide
theorem yj_l20 : (20 : Int64) = (20 : Int32).toInt64 := by decide
theorem yj_l30 : (30 : Int64) = (30 : Int32).toInt64 := by decide
theorem yj_l99 : (99 : Int64) = (99 : Int32).toInt64 := by decide
theorem yj_l255 : (255 : Int64) = (255 : Int32).toInt64 := by decide
theorem yj_w (x : Int32) (a c : Int64) (a' c' : Int32) (ha : a = a'.toInt64) (hc : c = c'.toInt64) : f_X9_within x.toInt64 a c = if x < a' then 0 else if c' < x then 0 else 1 := by
  rw [ha, hc]; exact yj_wI x a' c'
theorem yj_w03 (x : Int32) : f_X9_within x.toInt64 0 3 = if x < 0 then 0 else if 3 < x then 0 else 1 := yj_w x 0 3 0 3 yj_l0 yj_l3
theorem yj_w04 (x : Int32) : f_X9_within x.toInt64 0 4 = if x < 0 then 0 else if 4 < x then 0 else 1 := yj_w x 0 4 0 4 yj_l0 yj_l4
theorem yj_w05 (x : Int32) : f_X9_within x.toInt64 0 5 = if x < 0 then 0 else if 5 < x then 0 else 1 := yj_w x 0 5 0 5 yj_l0 yj_l5
theorem yj_w06 (x : Int32) : f_X9_within x.toInt64 0 6 = if x < 0 then 0 else if 6 < x then 0 else 1 := yj_w x 0 6 0 6 yj_l0 yj_l6
theorem yj_w07 (x : Int32) : f_X9_within x.toInt64 0 7 = if x < 0 then 0 else if 7 < x then 0 else 1 := yj_w x 0 7 0 7 yj_l0 yj_l7
theorem yj_w09 (x : Int32) : f_X9_within x.toInt64 0 9 = if x < 0 then 0 else if 9 < x then 0 else 1 := yj_w x 0 9 0 9 yj_l0 yj_l9
theorem yj_w01 (x : Int32) : f_X9_within x.toInt64 0 1 = if x < 0 then 0 else if 1 < x then 0 else 1 := yj_w x 0 1 0 1 yj_l0 yj_l1
theorem yj_w020 (x : Int32) : f_X9_within x.toInt64 0 20 = if x < 0 then 0 else if 20 < x then 0 else 1 := yj_w x 0 20 0 20 yj_l0 yj_l20
theorem yj_w099 (x : Int32) : f_X9_within x.toInt64 0 99 = if x < 0 then 0 else if 99 < x then 0 else 1 := yj_w x 0 99 0 99 yj_l0 yj_l99
theorem yj_w0255 (x : Int32) : f_X9_within x.toInt64 0 255 = if x < 0 then 0 else if 255 < x then 0 else 1 := yj_w x 0 255 0 255 yj_l0 yj_l255
theorem yj_w110 (x : Int32) : f_X9_within x.toInt64 1 10 = if x < 1 then 0 else if 10 < x then 0 else 1 := yj_w x 1 10 1 10 yj_l1 yj_l10
theorem yj_w130 (x : Int32) : f_X9_within x.toInt64 1 30 = if x < 1 then 0 else if 30 < x then 0 else 1 := yj_w x 1 30 1 30 yj_l1 yj_l30
theorem yj_w120 (x : Int32) : f_X9_within x.toInt64 1 20 = if x < 1 then 0 else if 20 < x then 0 else 1 := yj_w x 1 20 1 20 yj_l1 yj_l20
theorem yj_w15 (x : Int32) : f_X9_within x.toInt64 1 5 = if x < 1 then 0 else if 5 < x then 0 else 1 := yj_w x 1 5 1 5 yj_l1 yj_l5
theorem yj_w45 (x : Int32) : f_X9_within x.toInt64 4 5 = if x < 4 then 0 else if 5 < x then 0 else 1 := yj_w x 4 5 4 5 yj_l4 yj_l5
/-- one of 0 .. N -/
def yj_r (N : Nat) (x : Int32) : Prop := ∃ n : Nat, n ≤ N ∧ x = nI n
theorem yj_rI {N : Nat} {x : Int32} (hN : N < 2000000000) : yj_r N x ↔ 0 ≤ x.toInt ∧ x.toInt ≤ N := by
  constructor
  · rintro ⟨n, hn, rfl⟩
    rw [nI_toInt (by omega)]
    omega
  · intro h
    obtain ⟨n, hn, rfl⟩ := nI_of (x := x) (by rw [Int32.lt_iff_toInt_lt]; rw [show (0 : Int32).toInt = 0 from rfl]; omega)
    rw [nI_toInt hn] at h
    exact ⟨n, by omega, rfl⟩
theorem yj_r0 (N : Nat) : yj_r N 0 := ⟨0, Nat.zero_le _, rfl⟩
theorem yj_rn {N n : Nat} (h : n ≤ N) : yj_r N (nI n) := ⟨n, h, rfl⟩
theorem yj_rc {N : Nat} {x c : Int32} (hN : N < 2000000000) (hc : c = nI N) (h0 : ¬ x < 0) (h1 : ¬ c < x) : yj_r N x := by
  rw [yj_rI hN]
  rw [Int32.lt_iff_toInt_lt] at h0 h1
  rw [show (0 : Int32).toInt = 0 from rfl] at h0
  rw [hc, nI_toInt (by omega)] at h1
  omega
theorem yj_rp {N : Nat} {x : Int32} (hN : N < 2000000000) (h : yj_r N x) : ¬ x < 0 ∧ ¬ nI N < x := by
  obtain ⟨n, hn, rfl⟩ := h
  exact ⟨nI_pos (by omega), nI_nlt hn (by omega)⟩
theorem yj_isShelf (d : Int32) : f_X8_isShelf d = f_X9_isShelf d := by
  unfold f_X8_isShelf f_X9_isShelf
  rw [yj_w05]
  by_cases h : d < 0
  · rw [if_pos h, if_pos h]
  · rw [if_neg h, if_neg h]
    have e : 6 ≤ d ↔ 5 < d := by
      rw [Int32.lt_iff_toInt_lt, Int32.le_iff_toInt_le, show (6 : Int32).toInt = 6 from rfl, show (5 : Int32).toInt = 5 from rfl]
      omega
    simp only [e]
theorem yj_shelf {d : Int32} (h : ¬ f_X9_isShelf d = 0) : d = nI d.toNatClampNeg ∧ d.toNatClampNeg < 6 := by
  unfold f_X9_isShelf at h
  rw [yj_w05] at h
  by_cases h0 : d < 0
  · rw [if_pos h0] at h; exact absurd rfl h
  · rw [if_neg h0] at h
    by_cases h1 : 5 < d
    · rw [if_pos h1] at h; exact absurd rfl h
    · obtain ⟨n, hn, rfl⟩ := yj_rc (N := 5) (by omega) rfl h0 h1
      rw [nI_clamp (by omega)]
      exact ⟨rfl, by omega⟩
theorem yj_np1 {np : Nat} (hn : np ≤ 10) : (nI np - 1).toInt = (np : Int) - 1 := by
  have := pk_sub_toInt (a := np) (b := 1) (by omega) (by omega)
  exact this
theorem yj_isOne {np : Nat} (hn : np ≤ 10) (x : Int32) : f_X9_isOne np x.toInt64 = if x < 0 then 0 else if nI np ≤ x then 0 else 1 := by
  unfold f_X9_isOne
  rw [yj_w x 0 _ 0 (nI np - 1) yj_l0 rfl]
  by_cases h : x < 0
  · rw [if_pos h, if_pos h]
  · rw [if_neg h, if_neg h]
    have e : nI np - 1 < x ↔ nI np ≤ x := by
      rw [Int32.lt_iff_toInt_lt, Int32.le_iff_toInt_le, yj_np1 hn, nI_toInt (by omega)]
      omega
    simp only [e]
theorem yj_has {np k : Nat} {C : Nat → Nat → Int32} (hn : np ≤ 10) (hc : C k 0 = nI np) (x : Int32) : f_X7_has C k x = f_X9_isOne np x.toInt64 := by
  rw [yj_isOne hn]
  unfold f_X7_has
  rw [hc]
theorem yj_one {np : Nat} (hn : np ≤ 10) {x : Int32} (h : ¬ f_X9_isOne np x.toInt64 = 0) : x = nI x.toNatClampNeg ∧ x.toNatClampNeg < np := by
  rw [yj_isOne hn] at h
  by_cases h0 : x < 0
  · rw [if_pos h0] at h; exact absurd rfl h
  · rw [if_neg h0] at h
    by_cases h1 : nI np ≤ x
    · rw [if_pos h1] at h; exact absurd rfl h
    · obtain ⟨n, hn2, rfl⟩ := nI_of h0
      rw [nI_clamp hn2]
      refine ⟨rfl, ?_⟩
      rcases Nat.lt_or_ge n np with q | q
      · exact q
      · exact absurd (nI_le q hn2) h1
theorem yj_oneN {np n : Nat} (hn : np ≤ 10) (h : n < np) : f_X9_isOne np (nI n).toInt64 = 1 := by
  rw [yj_isOne hn, if_neg (nI_pos (by omega)), if_neg (nI_ge h (by omega))]
theorem yj_unlike {np k : Nat} {C : Nat → Nat → Int32} (hn : np ≤ 10) (hc : C k 0 = nI np) (x y z : Int32) : f_X7_areUnlike C k x y z = f_X9_areThree np x.toInt64 y.toInt64 z.toInt64 := by
  unfold f_X7_areUnlike f_X9_areThree
  simp only [yj_has hn hc, yj_cmpE, yj_inj]
theorem yj_three {np : Nat} (hn : np ≤ 10) {x y z : Int32} (h : ¬ f_X9_areThree np x.toInt64 y.toInt64 z.toInt64 = 0) : ∃ a e u : Nat, (a < np ∧ e < np ∧ u < np) ∧ (a ≠ e ∧ a ≠ u ∧ e ≠ u) ∧ x = nI a ∧ y = nI e ∧ z = nI u := by
  unfold f_X9_areThree at h
  by_cases h1 : f_X9_isOne np x.toInt64 = 0
  · rw [if_pos h1] at h; exact absurd rfl h
  · rw [if_neg h1] at h
    by_cases h2 : f_X9_isOne np y.toInt64 = 0
    · rw [if_pos h2] at h; exact absurd rfl h
    · rw [if_neg h2] at h
      by_cases h3 : f_X9_isOne np z.toInt64 = 0
      · rw [if_pos h3] at h; exact absurd rfl h
      · rw [if_neg h3] at h
        obtain ⟨a1, a2⟩ := yj_one hn h1
        obtain ⟨b1, b2⟩ := yj_one hn h2
        obtain ⟨c1, c2⟩ := yj_one hn h3
        simp only [yj_cmpE, yj_inj] at h
        refine ⟨_, _, _, ⟨a2, b2, c2⟩, ⟨fun q => ?_, fun q => ?_, fun q => ?_⟩, a1, b1, c1⟩
        · rw [if_pos (by rw [a1, b1, q])] at h; exact h rfl
        · by_cases g : x = y
          · rw [if_pos g] at h; exact h rfl
          · rw [if_neg g, if_pos (by rw [a1, c1, q])] at h; exact h rfl
        · by_cases g : x = y
          · rw [if_pos g] at h; exact h rfl
          · rw [if_neg g] at h
            by_cases g2 : x = z
            · rw [if_pos g2] at h; exact h rfl
            · rw [if_neg g2, if_pos (by rw [b1, c1, q])] at h; exact h rfl
theorem yj_threeN {np a e u : Nat} (hn : np ≤ 10) (ha : a < np) (he : e < np) (hu : u < np) (h1 : a ≠ e) (h2 : a ≠ u) (h3 : e ≠ u) : f_X9_areThree np (nI a).toInt64 (nI e).toInt64 (nI u).toInt64 = 1 := by
  have k : ∀ {x y : Nat}, x < np → y < np → x ≠ y → ¬ (nI x).toInt64 = (nI y).toInt64 := by
    intro x y hx hy hxy q
    exact hxy ((nI_eq (by omega) (by omega)).mp (yj_inj.mp q))
  unfold f_X9_areThree
  rw [if_neg (by rw [yj_oneN hn ha]; decide), if_neg (by rw [yj_oneN hn he]; decide), if_neg (by rw [yj_oneN hn hu]; decide), if_neg (by rw [yj_cmpE]; exact k ha he h1), if_neg (by rw [yj_cmpE]; exact k ha hu h2), if_neg (by rw [yj_cmpE]; exact k he hu h3)]
/-- 100 a + 10 e + u: what the three are -/
theorem yj_isThree {np : Nat} {C : Nat → Nat → Int32} (hn : np ≤ 10) (hc : C 1 0 = nI np) (abu : Int32) : f_X8_isThree C abu = f_X9_isAbu np abu := by
  unfold f_X8_isThree f_X9_isAbu
  simp only [yj_unlike hn hc]
  by_cases h : abu < 0
  · rw [if_pos h, if_pos h]
  · rw [if_neg h, if_neg h]
    by_cases h2 : 999 < abu
    · rw [if_pos h2]
      obtain ⟨n, hn2, rfl⟩ := nI_of h
      have h3 : 999 < n := by
        have := (nI_ltI (a := 999) (b := n) (by omega) hn2).mp h2
        exact this
      have e : nI n / 100 = nI (n / 100) := pk_div (d := 100) hn2 (by omega) (by omega)
      have g : f_X9_isOne np (nI n / 100).toInt64 = 0 := by
        rw [e, yj_isOne hn, if_neg (nI_pos (by omega)), if_pos (nI_le (by omega) (by omega))]
      rw [if_pos]
      unfold f_X9_areThree
      rw [if_pos g]
    · rw [if_neg h2]
theorem yj_abu {np : Nat} (hn : np ≤ 10) {abu : Int32} (h : ¬ f_X9_isAbu np abu = 0) : ∃ a e u : Nat, (a < np ∧ e < np ∧ u < np) ∧ (a ≠ e ∧ a ≠ u ∧ e ≠ u) ∧ abu / 100 = nI a ∧ (abu / 10) - (abu / 10) / 10 * 10 = nI e ∧ abu - abu / 10 * 10 = nI u := by
  unfold f_X9_isAbu at h
  by_cases h1 : abu < 0
  · rw [if_pos h1] at h; exact absurd rfl h
  · rw [if_neg h1] at h
    by_cases h2 : f_X9_areThree np (abu / 100).toInt64 ((abu / 10) - (abu / 10) / 10 * 10).toInt64 (abu - abu / 10 * 10).toInt64 = 0
    · rw [if_pos h2] at h; exact absurd rfl h
    · exact yj_three hn h2
theorem yj_isPart (x : Int32) : f_X8_isPart x = f_X9_within x.toInt64 0 1 := by
  rw [yj_w01]
  unfold f_X8_isPart
  by_cases h0 : x = 0
  · rw [if_pos h0, h0]; decide
  · by_cases h1 : x = 1
    · rw [if_neg h0, if_pos h1, h1]; decide
    · rw [if_neg h0, if_neg h1]
      by_cases h : x < 0
      · rw [if_pos h]
      · rw [if_neg h]
        by_cases h2 : 1 < x
        · rw [if_pos h2]
        · obtain ⟨n, hn, rfl⟩ := yj_rc (N := 1) (by omega) rfl h h2
          have : n = 0 ∨ n = 1 := by omega
          rcases this with q | q
          · exact absurd (by rw [q]; rfl) h0
          · exact absurd (by rw [q]; rfl) h1
theorem yj_within0 (x : Int32) : f_X8_isWithin 0 x = f_X9_within x.toInt64 0 9 := by
  rw [yj_w09]; rfl
theorem yj_within1 (x : Int32) : f_X8_isWithin 1 x = f_X9_within x.toInt64 0 99 := by
  rw [yj_w099]; rfl
theorem yj_within2 (x : Int32) : f_X8_isWithin 2 x = f_X9_within x.toInt64 0 255 := by
  rw [yj_w0255]; rfl
/-- bits counted by the JDK and by the reference -/
theorem yj_bits255 : ∀ n : Nat, n < 256 → f_J6_bitCount_0f7a4 (nI n) = f_X9_bitsOf (nI n) := by decide +kernel
theorem yj_bits1023 : ∀ n : Nat, n < 1024 → f_J6_bitCount_0f7a4 (nI n) = f_X9_bitsOf (nI n) := by decide +kernel
theorem yj_bits {x : Int32} (h : yj_r 255 x) : f_J6_bitCount_0f7a4 x = f_X9_bitsOf x := by
  obtain ⟨n, hn, rfl⟩ := h
  exact yj_bits255 n (by omega)
/-- bit 0, by % 2 and by & 1 -/
theorem yj_bit0 : ∀ n : Nat, n < 256 → (nI n - nI n / 2 * 2 = 0 ∧ nI n &&& 1 = 0) ∨ (nI n - nI n / 2 * 2 = 1 ∧ nI n &&& 1 = 1) := by decide +kernel
theorem yj_odd {x : Int32} {N : Nat} (hN : N ≤ 255) (h : yj_r N x) : (x - x / 2 * 2 = 0 ∧ x &&& 1 = 0) ∨ (x - x / 2 * 2 = 1 ∧ x &&& 1 = 1) := by
  obtain ⟨n, hn, rfl⟩ := h
  exact yj_bit0 n (by omega)
