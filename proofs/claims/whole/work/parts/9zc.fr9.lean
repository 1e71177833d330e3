/-! THE REFERENCE LEAVES THE CLASS'S CELLS -/
def yj_o9 {α : Type} (I J : Nat → Nat → α) : Prop := ∀ a j, a < 54 → J a j = I a j
theorem yj_o9r {α : Type} (I : Nat → Nat → α) : yj_o9 I I := fun _ _ _ => rfl
theorem yj_o9t {α : Type} {I J K : Nat → Nat → α} (h : yj_o9 I J) (g : yj_o9 J K) : yj_o9 I K := fun a j q => (g a j q).trans (h a j q)
theorem yj_o9u {α : Type} {I J : Nat → Nat → α} (h : yj_o9 I J) {k : Nat} (hk : 54 ≤ k) (i : Nat) (v : α) : yj_o9 I (z_up J k i v) := fun a j q => (z_up_k _ _ (by omega)).trans (h a j q)
theorem yj_o9i {α : Type} {I A B : Nat → Nat → α} {c : Prop} [Decidable c] (h : yj_o9 I A) (g : yj_o9 I B) : yj_o9 I (if c then A else B) := by
  by_cases q : c
  · rw [if_pos q]; exact h
  · rw [if_neg q]; exact g
theorem yj_o9bg (I : Nat → Nat → Int32) (np : Nat) : yj_o9 I (m_X9_begins I np) := fun a j q => z_begO _ _ _ _ (by omega) (by omega) (by omega) (by omega)
theorem yj_o9oo (I : Nat → Nat → Int32) (x y z : Nat) : yj_o9 I (m_X9_oddsOf I x y z) := fun a j q => z_ooF _ _ _ _ _ _ (by omega) (by omega)
theorem yj_o9ih (I : Nat → Nat → Int32) (x y z : Nat) (w : Int32) : yj_o9 I (m_X9_isHeld I x y z w) := fun a j q => z_ihF _ _ _ _ _ _ _ (by omega)
theorem yj_o9en (I : Nat → Nat → Int32) (np : Nat) : yj_o9 I (m_X9_endsDay I np) := fun a j q => z_enF _ _ _ _ (by omega) (by omega) (by omega) (by omega)
theorem yj_o9kp (I : Nat → Nat → Int32) {np : Nat} (hn : np ≤ 10) : yj_o9 I (m_X9_keepsAll I np) := fun a j q => yj_kpF _ _ hn _ _ (by omega)
theorem yj_o9ad (I : Nat → Nat → Int32) (np : Nat) (x y z : Int32) : yj_o9 I (m_X9_adds I np x y z) := fun a j q => yj_adF _ _ _ _ _ _ _ (by omega) (by omega)
theorem yj_o9player (I : Nat → Nat → Int32) (np : Nat) (x : Int32) : yj_o9 I (m_X9_player I np x) := by
  unfold m_X9_player
  repeat' (first | with_reducible exact yj_o9r _ | with_reducible exact yj_o9ad _ _ _ _ _ | with_reducible apply yj_o9i)
theorem yj_o9p69 (L : Nat → Nat → Int64) (np : Nat) (sh i : Int32) : ∀ (r t : Nat) (I : Nat → Nat → Int32), yj_o9 I (gx_X9_players_69 L np sh i r t I).2
  | 0, t, I => yj_o9r _
  | r + 1, t, I => by
    unfold gx_X9_players_69
    (repeat' split) <;> first | exact yj_o9r _ | exact yj_o9t (yj_o9ad _ _ _ _ _) (yj_o9p69 L np sh i r (t + 1) _)
theorem yj_o9players (I : Nat → Nat → Int32) (L : Nat → Nat → Int64) (np : Nat) (sh i n : Int32) : yj_o9 I (m_X9_players I L np sh i n) := by
  unfold m_X9_players
  repeat' (first | with_reducible exact yj_o9r _ | with_reducible exact yj_o9p69 _ _ _ _ _ _ _ | with_reducible apply yj_o9i)
theorem yj_o9mend (I : Nat → Nat → Int32) (np dn : Nat) (n w v : Int32) : yj_o9 I (m_X9_mend I np dn n w v) := by
  unfold m_X9_mend m_X9_becomes
  have g : yj_o9 I (g_X9_becomes_26 I 39) := fun a j q => (yj_shG I 39).1 a j (by omega)
  repeat' (first | with_reducible exact yj_o9r _ | with_reducible exact g | with_reducible apply yj_o9i | with_reducible refine yj_o9u ?_ (by decide) _ _)
theorem yj_o9feed (I : Nat → Nat → Int32) (tm : Nat) (x : Int32) : yj_o9 I (m_X9_feed I tm x) := by
  unfold m_X9_feed
  repeat' (first | with_reducible exact yj_o9r _ | with_reducible apply yj_o9i | with_reducible refine yj_o9u ?_ (by decide) _ _)
theorem yj_o9odds (I : Nat → Nat → Int32) (np : Nat) (x : Int32) : yj_o9 I (m_X9_odds I np x) := by
  unfold m_X9_odds
  split
  · exact yj_o9r _
  · exact yj_o9t (yj_o9bg _ _) (yj_o9oo _ _ _ _)
theorem yj_o9b50 (np : Nat) (ab : Int32) : ∀ (r t : Nat) (v : Int32) (I : Nat → Nat → Int32), yj_o9 I (gx_X9_bestJudge_50 np ab r t v I).2
  | 0, t, v, I => yj_o9r _
  | r + 1, t, v, I => by
    unfold gx_X9_bestJudge_50
    (repeat' split) <;> first | exact yj_o9b50 np ab r (t + 1) _ _ | exact yj_o9t (yj_o9t (yj_o9oo _ _ _ _) (yj_o9oo _ _ _ _)) (yj_o9b50 np ab r (t + 1) _ _)
theorem yj_o9bestJudge (I : Nat → Nat → Int32) (np : Nat) (ab : Int32) : yj_o9 I (m_X9_bestJudge I np ab) := by
  unfold m_X9_bestJudge
  repeat' (first | with_reducible exact yj_o9r _ | with_reducible exact yj_o9t (yj_o9bg _ _) (yj_o9b50 _ _ _ _ _ _) | with_reducible apply yj_o9i)
theorem yj_o9c4 (L : Nat → Nat → Int64) (np sh : Nat) : ∀ (r t : Nat) (v : Int32) (I : Nat → Nat → Int32), yj_o9 I (gx_X9_goesCard_4 L np sh r t v I).2
  | 0, t, v, I => yj_o9r _
  | r + 1, t, v, I => by
    unfold gx_X9_goesCard_4
    (repeat' split) <;> first | exact yj_o9r _ | exact yj_o9t (yj_o9t (yj_o9oo _ _ _ _) (yj_o9ih _ _ _ _ _)) (yj_o9c4 L np sh r (t + 1) _ _)
theorem yj_o9gc (I : Nat → Nat → Int32) (L : Nat → Nat → Int64) (np sh : Nat) : yj_o9 I (m_X9_goesCard I L np sh) := yj_o9c4 _ _ _ _ _ _ _
theorem yj_o9held (I : Nat → Nat → Int32) (L : Nat → Nat → Int64) (np : Nat) (sh : Int32) : yj_o9 I (m_X9_held I L np sh) := by
  unfold m_X9_held
  split
  · exact yj_o9t (yj_o9bg _ _) (yj_o9gc _ _ _ _)
  · exact yj_o9r _
theorem yj_o9loses (I : Nat → Nat → Int32) (L : Nat → Nat → Int64) (np : Nat) (sh : Int32) : yj_o9 I (m_X9_loses I L np sh) := by
  unfold m_X9_loses
  split
  · exact yj_o9t (yj_o9bg _ _) (yj_o9gc _ _ _ _)
  · exact yj_o9r _
theorem yj_o9b85 (L : Nat → Nat → Int64) (np : Nat) (sh one what : Int32) : ∀ (r t : Nat) (v : Int32) (I : Nat → Nat → Int32), yj_o9 I (gx_X9_behind_85 L np sh one what r t v I).2
  | 0, t, v, I => by
    unfold gx_X9_behind_85
    (repeat' split) <;> exact yj_o9r _
  | r + 1, t, v, I => by
    rw [gx_X9_behind_85]
    exact yj_o9t (yj_o9t (yj_o9gc _ _ _ _) (yj_o9en _ _)) (yj_o9b85 L np sh one what r (t + 1) _ _)
theorem yj_o9behind (I : Nat → Nat → Int32) (L : Nat → Nat → Int64) (np : Nat) (sh n one what : Int32) : yj_o9 I (m_X9_behind I L np sh n one what) := by
  have g : ∀ r, yj_o9 I (gx_X9_behind_85 L np sh one what r 0 0 (m_X9_begins I np)).2 := fun r => yj_o9t (yj_o9bg _ _) (yj_o9b85 _ _ _ _ _ _ _ _ _)
  unfold m_X9_behind
  repeat' (first | with_reducible exact yj_o9r _ | with_reducible exact g _ | with_reducible apply yj_o9i)
theorem yj_o9q45 (np n : Nat) (gone : Int32) (FT : Nat → Int32 → (Nat → Nat → Int32) → (Nat → Nat → Int32)) (h : ∀ f g I, yj_o9 I (FT f g I)) : ∀ (r t : Nat) (I : Nat → Nat → Int32), yj_o9 I (gx_X9_triesOnce_45 np n gone FT r t I) := by
  intro r
  induction r with
  | zero => exact fun t I => yj_o9r _
  | succ r IH =>
    intro t I
    rw [gx_X9_triesOnce_45]
    have A := IH (t + 1) I
    have B : ∀ g v, yj_o9 I (gx_X9_triesOnce_45 np n gone FT r (t + 1) (FT (t + 1) g (z_up I 65 n v))) := fun g v => yj_o9t (yj_o9t (yj_o9u (yj_o9r I) (by decide) n v) (h (t + 1) g (z_up I 65 n v))) (IH (t + 1) (FT (t + 1) g (z_up I 65 n v)))
    generalize gx_X9_triesOnce_45 np n gone FT r (t + 1) = G at A B ⊢
    exact yj_o9i (yj_o9r _) (yj_o9i A (yj_o9i (yj_o9i (yj_o9i (yj_o9i A (yj_o9i A (B _ _))) A) A) A))
theorem yj_o9tO (I : Nat → Nat → Int32) (np n f : Nat) (gone : Int32) (FT : Nat → Int32 → (Nat → Nat → Int32) → (Nat → Nat → Int32)) (h : ∀ f g I, yj_o9 I (FT f g I)) : yj_o9 I (m_X9_triesOnce I np n f gone FT) := by
  unfold m_X9_triesOnce
  split
  · exact yj_o9q45 _ _ _ _ h _ _ _
  · exact yj_o9t (yj_o9t (yj_o9u (yj_o9r _) (by omega) _ _) (fun a j q => (yj_w16 _ _ _).1 a j (by omega))) (yj_o9q45 _ _ _ _ h _ _ _)
theorem yj_o9tr (np : Nat) : ∀ (m f : Nat) (g : Int32) (I : Nat → Nat → Int32), yj_o9 I (z_tr np m f g I)
  | 0, f, g, I => yj_o9tO I np 3 f g (fun _ _ K => K) (fun _ _ _ => yj_o9r _)
  | m + 1, f, g, I => yj_o9tO I np _ f g (z_tr np m) (yj_o9tr np m)
theorem yj_o9atOnce (I : Nat → Nat → Int32) (np : Nat) (k : Int32) : yj_o9 I (m_X9_atOnce I np k) := by
  have g : yj_o9 I (z_tr np 3 0 0 (z_up (m_X9_begins I np) 54 23 0)) := yj_o9t (yj_o9u (yj_o9bg _ _) (by omega) _ _) (yj_o9tr _ _ _ _ _)
  unfold m_X9_atOnce
  repeat' (first | with_reducible exact yj_o9r _ | with_reducible exact g | with_reducible apply yj_o9i)
theorem yj_o9t36 (np : Nat) (one : Int32) (q : Nat) : ∀ (r t : Nat) (x y : Int32) (I : Nat → Nat → Int32), yj_o9 I (gw_X9_tomorrow_36 np one q r t x y I).2.2
  | 0, t, x, y, I => yj_o9r _
  | r + 1, t, x, y, I => by
    unfold gw_X9_tomorrow_36
    (repeat' split) <;> first | exact yj_o9t36 np one q r (t + 1) _ _ _ | exact yj_o9t (yj_o9oo _ _ _ _) (yj_o9t36 np one q r (t + 1) _ _ _) | exact yj_o9t (yj_o9t (yj_o9oo _ _ _ _) (yj_o9oo _ _ _ _)) (yj_o9t36 np one q r (t + 1) _ _ _)
theorem yj_o9t24 (np : Nat) (one : Int32) : ∀ (r t : Nat) (x y : Int32) (I : Nat → Nat → Int32), yj_o9 I (gx_X9_tomorrow_24 np one r t x y I).2
  | 0, t, x, y, I => yj_o9r _
  | r + 1, t, x, y, I => by
    unfold gx_X9_tomorrow_24
    exact yj_o9t (yj_o9t36 np one t np 0 x y I) (yj_o9t24 np one r (t + 1) _ _ _)
theorem yj_o9tomorrow (I : Nat → Nat → Int32) (np : Nat) (one : Int32) : yj_o9 I (m_X9_tomorrow I np one) := by
  unfold m_X9_tomorrow
  split
  · exact yj_o9r _
  · exact yj_o9t (yj_o9bg _ _) (yj_o9t24 _ _ _ _ _ _ _)
theorem yj_o9r23 (L : Nat → Nat → Int64) (np sh : Nat) : ∀ (r t : Nat) (I : Nat → Nat → Int32), yj_o9 I (gx_X9_takesResults_23 L np sh r t I)
  | 0, t, I => yj_o9r _
  | r + 1, t, I => by
    have IH := yj_o9r23 L np sh r (t + 1)
    rw [gx_X9_takesResults_23]
    repeat' (first | with_reducible exact yj_o9r _ | with_reducible exact IH _ | with_reducible exact yj_o9t (yj_o9u (yj_o9r _) (by decide) _ _) (IH _) | with_reducible apply yj_o9i)
theorem yj_o9tk (I : Nat → Nat → Int32) (L : Nat → Nat → Int64) (np sh : Nat) : yj_o9 I (m_X9_takesResults I L np sh) := yj_o9t (fun a j q => (yj_tr2 I 100).1 a j (by omega)) (yj_o9r23 _ _ _ _ _ _)
theorem yj_o9o68 (np x : Nat) : ∀ (r t : Nat) (I : Nat → Nat → Int32), yj_o9 I (gw_X9_order_68 np x r t I)
  | 0, t, I => yj_o9r _
  | r + 1, t, I => by
    have IH := yj_o9o68 np x r (t + 1)
    rw [gw_X9_order_68]
    repeat' (first | with_reducible exact IH _ | with_reducible exact yj_o9t (yj_o9u (yj_o9r _) (by decide) _ _) (IH _) | with_reducible apply yj_o9i)
theorem yj_o9o50 (np : Nat) : ∀ (r t : Nat) (I : Nat → Nat → Int32), yj_o9 I (gw_X9_order_50 np r t I)
  | 0, t, I => yj_o9r _
  | r + 1, t, I => yj_o9t (yj_o9t (yj_o9u (yj_o9r _) (by omega) _ _) (yj_o9o68 _ _ _ _ _)) (yj_o9o50 np r (t + 1) _)
theorem yj_o9order (I : Nat → Nat → Int32) (L : Nat → Nat → Int64) (np : Nat) (sh k : Int32) : yj_o9 I (m_X9_order I L np sh k) := by
  have g : ∀ s, yj_o9 I (gw_X9_order_50 np (2 ^ np - 1) 1 (m_X9_takesResults I L np s)) := fun s => yj_o9t (yj_o9tk _ _ _ _) (yj_o9o50 _ _ _ _)
  unfold m_X9_order
  repeat' (first | with_reducible exact yj_o9r _ | with_reducible exact g _ | with_reducible apply yj_o9i)
theorem yj_o9r79 (p m : Nat) : ∀ (r t : Nat) (I : Nat → Nat → Int32), yj_o9 I (gw_X9_ring_79 p m r t I)
  | 0, t, I => yj_o9r _
  | r + 1, t, I => by
    have IH := yj_o9r79 p m r (t + 1)
    rw [gw_X9_ring_79]
    repeat' (first | with_reducible exact yj_o9t (yj_o9u (yj_o9r _) (by decide) _ _) (IH _) | with_reducible apply yj_o9i)
theorem yj_o9r68 (np m : Nat) : ∀ (r t : Nat) (I : Nat → Nat → Int32), yj_o9 I (gw_X9_ring_68 np m r t I)
  | 0, t, I => yj_o9r _
  | r + 1, t, I => yj_o9t (yj_o9r79 _ _ _ _ _) (yj_o9r68 np m r (t + 1) _)
theorem yj_o9r58 (np : Nat) : ∀ (r t : Nat) (I : Nat → Nat → Int32), yj_o9 I (gw_X9_ring_58 np r t I)
  | 0, t, I => yj_o9r _
  | r + 1, t, I => yj_o9t (yj_o9r68 _ _ _ _ _) (yj_o9r58 np r (t + 1) _)
theorem yj_o9ring (I : Nat → Nat → Int32) (L : Nat → Nat → Int64) (np : Nat) (sh : Int32) : yj_o9 I (m_X9_ring I L np sh) := by
  unfold m_X9_ring
  split
  · exact yj_o9t (yj_o9t (yj_o9tk _ _ _ _) (fun a j q => (yj_r23 _ _ _).1 a j (by omega))) (yj_o9r58 _ _ _ _)
  · exact yj_o9r _
theorem yj_o9p42 (FP : Int32 → (Nat → Nat → Int32) → Int32 × (Nat → Nat → Int32)) (h : ∀ x I, yj_o9 I (FP x I).2) (k : Nat) (g : Int32) : ∀ (r t : Nat) (v : Int32) (I : Nat → Nat → Int32), yj_o9 I (gx_X9_playsFrom_42 FP k g r t v I).2
  | 0, t, v, I => yj_o9r _
  | r + 1, t, v, I => by
    have IH := yj_o9p42 FP h k g r (t + 1)
    rw [gx_X9_playsFrom_42]
    (repeat' split) <;> exact yj_o9t (h _ _) (IH _ _)
theorem yj_o9pl (I : Nat → Nat → Int32) (FP : Int32 → (Nat → Nat → Int32) → Int32 × (Nat → Nat → Int32)) (h : ∀ x I, yj_o9 I (FP x I).2) (abu : Int32) (k n : Nat) (g : Int32) : yj_o9 I (m_X9_playsFrom I FP abu k n g) := by
  unfold m_X9_playsFrom
  split
  · exact yj_o9t (yj_o9u (yj_o9r _) (by omega) _ _) (yj_o9oo _ _ _ _)
  · exact yj_o9p42 FP h _ _ _ _ _ _
theorem yj_o9pf (abu : Int32) (n : Nat) : ∀ (m : Nat) (g : Int32) (I : Nat → Nat → Int32), yj_o9 I (z_pf abu n m g I).2
  | 0, g, I => yj_o9pl I (fun _ K => (0, K)) (fun _ _ => yj_o9r _) abu n n g
  | m + 1, g, I => yj_o9pl I (z_pf abu n m) (yj_o9pf abu n m) abu _ n g
theorem yj_o9byTurns (I : Nat → Nat → Int32) (np : Nat) (abu n what : Int32) : yj_o9 I (m_X9_byTurns I np abu n what) := by
  have g := yj_o9bg I np
  unfold m_X9_byTurns
  repeat' (first | with_reducible exact yj_o9r _ | with_reducible exact yj_o9t g (yj_o9pf _ _ _ _ _) | with_reducible exact yj_o9t (yj_o9t g (yj_o9pf _ _ _ _ _)) (yj_o9pf _ _ _ _ _) | with_reducible exact yj_o9t (yj_o9t (yj_o9t g (yj_o9pf _ _ _ _ _)) (yj_o9pf _ _ _ _ _)) (yj_o9pf _ _ _ _ _) | with_reducible apply yj_o9i)
