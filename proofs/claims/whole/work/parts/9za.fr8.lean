/-! THE CLASS LEAVES THE REFERENCE'S CELLS -/
def yj_o8 {α : Type} (I J : Nat → Nat → α) : Prop := ∀ a j, (54 ≤ a ∧ a < 79) → J a j = I a j
theorem yj_o8r {α : Type} (I : Nat → Nat → α) : yj_o8 I I := fun _ _ _ => rfl
theorem yj_o8t {α : Type} {I J K : Nat → Nat → α} (h : yj_o8 I J) (g : yj_o8 J K) : yj_o8 I K := fun a j q => (g a j q).trans (h a j q)
theorem yj_o8u {α : Type} {I J : Nat → Nat → α} (h : yj_o8 I J) {k : Nat} (hk : k < 54) (i : Nat) (v : α) : yj_o8 I (z_up J k i v) := fun a j q => (z_up_k _ _ (by omega)).trans (h a j q)
theorem yj_o8v {α : Type} {I J : Nat → Nat → α} (h : yj_o8 I J) {k : Nat} (hk : k < 54) (g : Nat → α) : yj_o8 I (z_ro J k g) := fun a j q => (z_ro_k _ _ _ (by omega)).trans (h a j q)
theorem yj_o8i {α : Type} {I A B : Nat → Nat → α} {c : Prop} [Decidable c] (h : yj_o8 I A) (g : yj_o8 I B) : yj_o8 I (if c then A else B) := by
  by_cases q : c
  · rw [if_pos q]; exact h
  · rw [if_neg q]; exact g
theorem yj_o8oo (b : Bool) (I : Nat → Nat → Int32) (sz k : Nat) (x y z : Int32) : yj_o8 I (m_X1_oddsOn b I sz k x y z) := fun a j q => z_ooO _ _ _ _ _ _ _ _ _ (by omega) (by omega)
theorem yj_o8jn (I : Nat → Nat → Int32) (np : Nat) (x y z : Int32) : yj_o8 I (m_X7_join I 1 np x y z) := fun a j q => yj_jnF _ _ _ _ _ _ _ (by omega)
theorem yj_o8bc (I : Nat → Nat → Int32) {k : Nat} (hk : k ≤ 19 ∨ k = 79) (n w v : Int32) : yj_o8 I (m_X7_become I k n w v) := fun a j q => z_becO _ _ _ _ _ (by omega)
theorem yj_o8bg (I : Nat → Nat → Int32) (np : Nat) : yj_o8 I (m_X3_begin I np) := fun a j q => yq_bgF _ _ _ _ (by unfold yq_o; omega)
theorem yj_o8ba (I : Nat → Nat → Int32) (np : Nat) : yj_o8 I (m_X3_beginAnew I np) := fun a j q => yq_baF _ _ _ _ (by unfold yq_o; omega)
theorem yj_o8hc (b : Bool) (I : Nat → Nat → Int32) (L : Nat → Nat → Int64) (k sz len : Nat) (bd : Int32) : yj_o8 I (m_X3_holdCard b I L k sz len bd) := fun a j q => yq_hcF (by unfold yq_o; omega) _ _ _ _ _ _ _ _ _
theorem yj_o8gt (b : Bool) (I : Nat → Nat → Int32) (L : Nat → Nat → Int64) (k np sz len days : Nat) (bd : Int32) : yj_o8 I (m_X3_goThrough b I L k np sz len days bd) := fun a j q => yq_gtF (by unfold yq_o; omega) _ _ _ _ _ _ _ _ _ _
theorem yj_o8player (I : Nat → Nat → Int32) (np : Nat) (x : Int32) : yj_o8 I (m_X8_player I np x) := by
  unfold m_X8_player
  (repeat' split) <;> first | exact yj_o8r _ | exact yj_o8jn _ _ _ _ _
theorem yj_o8p56 (L : Nat → Nat → Int64) (np : Nat) (sh : Int32) : ∀ (r t : Nat) (v : Int32) (I : Nat → Nat → Int32), yj_o8 I (gx_X8_players_56 L np sh r t v I).2
  | 0, t, v, I => yj_o8r _
  | r + 1, t, v, I => by
    unfold gx_X8_players_56
    (repeat' split) <;> first | exact yj_o8r _ | exact yj_o8t (yj_o8jn _ _ _ _ _) (yj_o8p56 L np sh r (t + 1) _ _)
theorem yj_o8players (I : Nat → Nat → Int32) (L : Nat → Nat → Int64) (np : Nat) (sh i n : Int32) : yj_o8 I (m_X8_players I L np sh i n) := by
  unfold m_X8_players
  (repeat' split) <;> first | exact yj_o8r _ | exact yj_o8p56 _ _ _ _ _ _ _
theorem yj_o8mend (I : Nat → Nat → Int32) (dn : Nat) (n w v : Int32) : yj_o8 I (m_X8_mend I dn n w v) := by
  unfold m_X8_mend
  (repeat' split) <;> first | exact yj_o8r _ | exact yj_o8t (fun a j q => z_remO _ _ _ _ _ _ _ (by omega)) (yj_o8bc _ (by omega) _ _ _)
theorem yj_o8ap (I : Nat → Nat → Int32) (ln : Nat) (x : Int32) : yj_o8 I (m_X1_append I ln x) := by
  unfold m_X1_append
  split
  · exact yj_o8u (yj_o8u (yj_o8r _) (by omega) _ _) (by omega) _ _
  · exact yj_o8r _
theorem yj_o8feed (I : Nat → Nat → Int32) (ln : Nat) (x : Int32) : yj_o8 I (m_X8_feed I ln x) := by
  unfold m_X8_feed
  (repeat' split) <;> first | exact yj_o8r _ | exact yj_o8ap _ _ _
theorem yj_o8odds (b : Bool) (I : Nat → Nat → Int32) (sz : Nat) (x : Int32) : yj_o8 I (m_X8_odds b I sz x) := by
  unfold m_X8_odds
  split
  · exact yj_o8r _
  · exact yj_o8oo _ _ _ _ _ _ _
theorem yj_o8b49 (b : Bool) (I : Nat → Nat → Int32) (sz : Nat) (ab : Int32) : ∀ n : Nat, yj_o8 I (g_X8_bestJudge_49 b I sz ab n).2.2
  | 0 => yj_o8r _
  | n + 1 => by
    have ih := yj_o8b49 b I sz ab n
    show yj_o8 I (gb_X8_bestJudge_49 b I sz ab n (g_X8_bestJudge_49 b I sz ab n)).2.2
    generalize g_X8_bestJudge_49 b I sz ab n = s at ih ⊢
    unfold gb_X8_bestJudge_49
    (repeat' split) <;> first | exact ih | exact yj_o8t ih (yj_o8oo _ _ _ _ _ _ _)
theorem yj_o8bestJudge (b : Bool) (I : Nat → Nat → Int32) (np sz : Nat) (ab : Int32) : yj_o8 I (m_X8_bestJudge b I np sz ab) := by
  unfold m_X8_bestJudge
  (repeat' split) <;> first | exact yj_o8r _ | exact yj_o8b49 _ _ _ _ _
theorem yj_o8held (b : Bool) (I : Nat → Nat → Int32) (L : Nat → Nat → Int64) (np sz : Nat) (sh : Int32) : yj_o8 I (m_X8_held b I L np sz sh) := by
  unfold m_X8_held
  split
  · exact yj_o8t (yj_o8bg _ _) (yj_o8hc _ _ _ _ _ _ _)
  · exact yj_o8r _
theorem yj_o8loses (b : Bool) (I : Nat → Nat → Int32) (L : Nat → Nat → Int64) (np sz : Nat) (sh : Int32) : yj_o8 I (m_X8_loses b I L np sz sh) := by
  unfold m_X8_loses
  split
  · exact yj_o8t (yj_o8bg _ _) (yj_o8hc _ _ _ _ _ _ _)
  · exact yj_o8r _
theorem yj_o8behind (b : Bool) (I : Nat → Nat → Int32) (L : Nat → Nat → Int64) (np sz : Nat) (sh n one what : Int32) : yj_o8 I (m_X8_behind b I L np sz sh n one what) := by
  have g : ∀ k len days bd, yj_o8 I (m_X3_goThrough b (m_X3_begin I np) L k np sz len days bd) := fun k len days bd => yj_o8t (yj_o8bg _ _) (yj_o8gt _ _ _ _ _ _ _ _ _)
  unfold m_X8_behind
  repeat' (first | with_reducible exact yj_o8r _ | with_reducible exact g _ _ _ _ | with_reducible apply yj_o8i)
theorem yj_o8t37 (b : Bool) (sz : Nat) (one : Int32) (q : Nat) : ∀ (r t : Nat) (x y : Int32) (I : Nat → Nat → Int32), yj_o8 I (gw_X8_tomorrow_37 b sz one q r t x y I).2.2
  | 0, t, x, y, I => yj_o8r _
  | r + 1, t, x, y, I => by
    unfold gw_X8_tomorrow_37
    (repeat' split) <;> first | exact yj_o8t37 b sz one q r (t + 1) _ _ _ | exact yj_o8t (yj_o8oo _ _ _ _ _ _ _) (yj_o8t37 b sz one q r (t + 1) _ _ _)
theorem yj_o8t22 (b : Bool) (np sz : Nat) (one : Int32) : ∀ (r t : Nat) (x y : Int32) (I : Nat → Nat → Int32), yj_o8 I (gx_X8_tomorrow_22 b np sz one r t x y I).2
  | 0, t, x, y, I => yj_o8r _
  | r + 1, t, x, y, I => by
    unfold gx_X8_tomorrow_22
    exact yj_o8t (yj_o8t37 b sz one t np 0 x y I) (yj_o8t22 b np sz one r (t + 1) _ _ _)
theorem yj_o8tomorrow (b : Bool) (I : Nat → Nat → Int32) (np sz : Nat) (one : Int32) : yj_o8 I (m_X8_tomorrow b I np sz one) := by
  unfold m_X8_tomorrow
  split
  · exact yj_o8r _
  · exact yj_o8t22 _ _ _ _ _ _ _ _ _
theorem yj_o8rd (k : Nat) : ∀ (r t : Nat) (I : Nat → Nat → Int32) (L : Nat → Nat → Int64), yj_o8 I (gx_X2_read_38 k r t I L).1 ∧ yj_o8 L (gx_X2_read_38 k r t I L).2
  | 0, t, I, L => ⟨yj_o8r _, yj_o8r _⟩
  | r + 1, t, I, L => by
    unfold gx_X2_read_38
    (repeat' split) <;> first | exact ⟨yj_o8r _, yj_o8r _⟩ | exact yj_o8rd k r (t + 1) _ _ | exact ⟨yj_o8t (yj_o8u (yj_o8r _) (by omega) _ _) (yj_o8rd k r (t + 1) _ _).1, yj_o8t (yj_o8u (yj_o8r _) (by omega) _ _) (yj_o8rd k r (t + 1) _ _).2⟩
theorem yj_o8read (I : Nat → Nat → Int32) (L : Nat → Nat → Int64) (np k : Nat) : yj_o8 I (m_X2_read I L np k) ∧ yj_o8 L (n_X2_read I L np k) := by
  unfold m_X2_read n_X2_read
  obtain ⟨⟨a1, a2⟩, -⟩ := yj_rd10 10 0 (z_up I 26 0 (nI np)) L
  have g1 : yj_o8 I (gw_X2_read_10 10 0 (z_up I 26 0 (nI np)) L).1 := yj_o8t (yj_o8u (yj_o8r _) (by omega) _ _) (fun a j q => a1 a j (by omega))
  have g2 : yj_o8 L (gw_X2_read_10 10 0 (z_up I 26 0 (nI np)) L).2 := fun a j q => a2 a j (by omega)
  exact ⟨yj_o8t g1 (yj_o8rd k 20 0 _ _).1, yj_o8t g2 (yj_o8rd k 20 0 _ _).2⟩
theorem yj_o8w26 (np q : Nat) : ∀ (r t : Nat) (I : Nat → Nat → Int32) (L : Nat → Nat → Int64), yj_o8 I (gw_X2_weigh_26 np q r t I L).1 ∧ yj_o8 L (gw_X2_weigh_26 np q r t I L).2
  | 0, t, I, L => ⟨yj_o8r _, yj_o8r _⟩
  | r + 1, t, I, L => by
    unfold gw_X2_weigh_26
    exact ⟨yj_o8t (yj_o8u (yj_o8r _) (by omega) _ _) (yj_o8w26 np q r (t + 1) _ _).1, yj_o8t (yj_o8u (yj_o8r _) (by omega) _ _) (yj_o8w26 np q r (t + 1) _ _).2⟩
theorem yj_o8w16 (np : Nat) : ∀ (r t : Nat) (I : Nat → Nat → Int32) (L : Nat → Nat → Int64), yj_o8 I (gw_X2_weigh_16 np r t I L).1 ∧ yj_o8 L (gw_X2_weigh_16 np r t I L).2
  | 0, t, I, L => ⟨yj_o8r _, yj_o8r _⟩
  | r + 1, t, I, L => by
    unfold gw_X2_weigh_16
    exact ⟨yj_o8t (yj_o8w26 np t _ 0 I L).1 (yj_o8w16 np r (t + 1) _ _).1, yj_o8t (yj_o8w26 np t _ 0 I L).2 (yj_o8w16 np r (t + 1) _ _).2⟩
theorem yj_o8weigh (I : Nat → Nat → Int32) (L : Nat → Nat → Int64) (np : Nat) : yj_o8 I (m_X2_weigh I L np) ∧ yj_o8 L (n_X2_weigh I L np) :=
  ⟨yj_o8t (yj_o8u (yj_o8r _) (by omega) _ _) (yj_o8w16 np np 0 _ _).1, yj_o8t (yj_o8u (yj_o8r _) (by omega) _ _) (yj_o8w16 np np 0 _ _).2⟩
theorem yj_o8order (I : Nat → Nat → Int32) (L : Nat → Nat → Int64) (np : Nat) (sh k : Int32) : yj_o8 I (m_X8_order I L np sh k) ∧ yj_o8 L (n_X8_order I L np sh k) := by
  have g1 : ∀ k, yj_o8 I (m_X2_weigh (m_X2_read I L np k) (n_X2_read I L np k) np) := fun k => yj_o8t (yj_o8read I L np k).1 (yj_o8weigh _ _ _).1
  have g2 : ∀ k, yj_o8 L (n_X2_weigh (m_X2_read I L np k) (n_X2_read I L np k) np) := fun k => yj_o8t (yj_o8read I L np k).2 (yj_o8weigh _ _ _).2
  unfold m_X8_order n_X8_order
  constructor
  · (repeat' split) <;> first | exact yj_o8r _ | exact g1 _
  · (repeat' split) <;> first | exact yj_o8r _ | exact g2 _
theorem yj_o8ring (I : Nat → Nat → Int32) (L : Nat → Nat → Int64) (np : Nat) (sh : Int32) : yj_o8 I (m_X8_ring I L np sh) ∧ yj_o8 L (n_X8_ring I L np sh) := by
  unfold m_X8_ring n_X8_ring
  constructor
  · (repeat' split) <;> first | exact yj_o8r _ | exact (yj_o8read _ _ _ _).1
  · (repeat' split) <;> first | exact yj_o8r _ | exact (yj_o8read _ _ _ _).2
theorem yj_o8oa (b : Bool) (I : Nat → Nat → Int32) (sz : Nat) (g : Int32) : yj_o8 I (m_X6_oddsAt b I sz g) := by
  unfold m_X6_oddsAt
  (repeat' split) <;> first | exact yj_o8r _ | exact yj_o8u (yj_o8t (yj_o8bc _ (by omega) _ _ _) (yj_o8oo _ _ _ _ _ _ _)) (by omega) _ _
theorem yj_o8x30 (fr o : Int32) (FB : Int32 → Int32 → (Nat → Nat → Int32) → Int32 × (Nat → Nat → Int32)) (h : ∀ x y I, yj_o8 I (FB x y I).2) : ∀ (r t : Nat) (v : Int32) (I : Nat → Nat → Int32), yj_o8 I (gx_X6_best_32 fr o FB r t v I).2
  | 0, t, v, I => yj_o8r _
  | r + 1, t, v, I => by
    rw [gx_X6_best_32]
    split
    · exact yj_o8t (h _ _ _) (yj_o8x30 fr o FB h r (t + 1) _ _)
    · exact yj_o8t (h _ _ _) (yj_o8x30 fr o FB h r (t + 1) _ _)
theorem yj_o8be (b : Bool) (I : Nat → Nat → Int32) (sz : Nat) (fr : Int32) (m : Nat) (o : Int32) (FB : Int32 → Int32 → (Nat → Nat → Int32) → Int32 × (Nat → Nat → Int32)) (h : ∀ x y I, yj_o8 I (FB x y I).2) : yj_o8 I (m_X6_best b I sz fr m o FB) := by
  unfold m_X6_best
  (repeat' split) <;> first | exact yj_o8oa _ _ _ _ | exact yj_o8x30 _ _ _ h _ _ _ _
theorem yj_o8bt (b : Bool) (sz : Nat) : ∀ (m : Nat) (x y : Int32) (I : Nat → Nat → Int32), yj_o8 I (yq_bt b sz m x y I).2
  | 0, x, y, I => yj_o8be b I sz y 0 x (fun _ _ K => (0, K)) (fun _ _ _ => yj_o8r _)
  | m + 1, x, y, I => yj_o8be b I sz y (m + 1) x _ (yj_o8bt b sz m)
theorem yj_o8bf (b : Bool) (sz m : Nat) : ∀ (r t : Nat) (x y : Int32) (I : Nat → Nat → Int32), yj_o8 I (gx_X6_bestFirst_8 b sz m r t x y I).2
  | 0, t, x, y, I => yj_o8r _
  | r + 1, t, x, y, I => by
    rw [gx_X6_bestFirst_8]
    split
    · exact yj_o8t (yj_o8bt _ _ _ _ _ _) (yj_o8bf b sz m r (t + 1) _ _ _)
    · exact yj_o8t (yj_o8bt _ _ _ _ _ _) (yj_o8bf b sz m r (t + 1) _ _ _)
theorem yj_o8xb (I : Nat → Nat → Int32) (np : Nat) (ab : Int32) : yj_o8 I (m_X6_begin I np ab) := fun a j q => (yq_bgA (np := np) I ab a j (by omega) (by omega) 100).trans (z_cpF79 I np a j (Or.inl (by omega)))
theorem yj_o8byTurns (b : Bool) (I : Nat → Nat → Int32) (np sz : Nat) (abu n what : Int32) : yj_o8 I (m_X8_byTurns b I np sz abu n what) := by
  have g : yj_o8 I (m_X6_begin I np abu) := yj_o8xb _ _ _
  unfold m_X8_byTurns
  (repeat' split) <;> first | exact yj_o8r _ | exact yj_o8t g (yj_o8bt _ _ _ _ _ _) | exact yj_o8t g (yj_o8bf _ _ _ _ _ _ _ _)
theorem yj_o8d105 (b : Bool) (I0 : Nat → Nat → Int32) (L : Nat → Nat → Int64) (np sz : Nat) (sh nm one : Int32) : ∀ (r t : Nat) (I : Nat → Nat → Int32), yj_o8 I (gx_X8_drawn_105 b I0 L np sz sh nm one r t I).2
  | 0, t, I => by
    unfold gx_X8_drawn_105
    split <;> exact yj_o8r _
  | r + 1, t, I => by
    rw [gx_X8_drawn_105]
    exact yj_o8t (yj_o8t (yj_o8ba _ _) (yj_o8gt _ _ _ _ _ _ _ _ _)) (yj_o8d105 b I0 L np sz sh nm one r (t + 1) _)
theorem yj_o8drawn (b : Bool) (I : Nat → Nat → Int32) (L : Nat → Nat → Int64) (np sz : Nat) (seed sh nm one : Int32) : yj_o8 I (m_X8_drawn b I L np sz seed sh nm one) := by
  have g : yj_o8 I (z_up (m_X3_begin I np) 19 6 seed) := yj_o8u (yj_o8bg _ _) (by omega) _ _
  unfold m_X8_drawn
  (repeat' split) <;> first | exact yj_o8r _ | exact yj_o8t g (yj_o8d105 _ _ _ _ _ _ _ _ _ _ _)
