/-! AT THE VERY START: the tables and what the machine knows -/
theorem yj_tabs {args : Array Value} {s : State} {A : Nat → Prop} {C n : String} {N : Nat} {f : Nat → Int32} (hN : N < 2 ^ 31) (hl : (Cond.laysStatic C n "[I").before args s = true) (hini : (Cond.initialized C).before args s = true) (harr : (Cond.arrayOf (.static C n "[I") .int).before args s = true) (hlen : (Cond.eq (.length (.static C n "[I")) (.int (Int32.ofNat N))).before args s = true) (hel : ∀ j : Nat, j < N → (Cond.eq (.elem (.static C n "[I") (.int (Int32.ofNat j))) (.int (f j))).before args s = true) (hA : ∀ a : Nat, a < s.heap.size → ¬ A a) : ∃ t : Nat, va_Z C n "[I" (.ref t) A s s.heap ∧ va_T .int t N (fun j => .int (f j)) A s s.heap := by
  obtain ⟨t, ht, hT⟩ := va_Tof (f := fun j => .int (f j)) (A := A) hN harr (va_eqt hlen) (fun j hj => va_eqt (hel j hj)) hA
  exact ⟨t, va_Zref hl hini ht hA, hT⟩
theorem yj_te0 : ∀ j : Nat, j < 3 → Cond.eq (.elem (.static RX6 "FIRST_LIKED" "[I") (.int (Int32.ofNat j))) (.int (z_t0 j)) ∈ flatC (Jvm.Cond.and given_1 narrow_1) := by decide +kernel
theorem yj_tb0 {args : Array Value} {s : State} {A : Nat → Prop} (hts : ∀ w ∈ lw_tbl, w.before args s = true) (hgv : (Jvm.Cond.and given_1 narrow_1).before args s = true) (hA : ∀ a : Nat, a < s.heap.size → ¬ A a) : ∃ t : Nat, va_Z RX6 "FIRST_LIKED" "[I" (.ref t) A s s.heap ∧ va_T .int t 3 (fun j => .int (z_t0 j)) A s s.heap := by
  have hs := flat_of_before _ hgv
  refine yj_tabs (f := z_t0) (by decide) (hts _ (List.mem_of_getElem? (i := 741) (by decide +kernel))) (hts _ (List.mem_of_getElem? (i := 73) (by decide +kernel))) (hs _ (by decide +kernel)) (hs _ (by decide +kernel)) (fun j hj => hs _ (yj_te0 j hj)) hA
theorem yj_te1 : ∀ j : Nat, j < 8 → Cond.eq (.elem (.static RX5 "ABOVE" "[I") (.int (Int32.ofNat j))) (.int (z_t1 j)) ∈ flatC (Jvm.Cond.and given_1 narrow_1) := by decide +kernel
theorem yj_tb1 {args : Array Value} {s : State} {A : Nat → Prop} (hts : ∀ w ∈ lw_tbl, w.before args s = true) (hgv : (Jvm.Cond.and given_1 narrow_1).before args s = true) (hA : ∀ a : Nat, a < s.heap.size → ¬ A a) : ∃ t : Nat, va_Z RX5 "ABOVE" "[I" (.ref t) A s s.heap ∧ va_T .int t 8 (fun j => .int (z_t1 j)) A s s.heap := by
  have hs := flat_of_before _ hgv
  refine yj_tabs (f := z_t1) (by decide) (hts _ (List.mem_of_getElem? (i := 836) (by decide +kernel))) (hts _ (List.mem_of_getElem? (i := 75) (by decide +kernel))) (hs _ (by decide +kernel)) (hs _ (by decide +kernel)) (fun j hj => hs _ (yj_te1 j hj)) hA
theorem yj_te2 : ∀ j : Nat, j < 32 → Cond.eq (.elem (.static RX5 "BODIES" "[I") (.int (Int32.ofNat j))) (.int (z_t2 j)) ∈ flatC (Jvm.Cond.and given_1 narrow_1) := by decide +kernel
theorem yj_tb2 {args : Array Value} {s : State} {A : Nat → Prop} (hts : ∀ w ∈ lw_tbl, w.before args s = true) (hgv : (Jvm.Cond.and given_1 narrow_1).before args s = true) (hA : ∀ a : Nat, a < s.heap.size → ¬ A a) : ∃ t : Nat, va_Z RX5 "BODIES" "[I" (.ref t) A s s.heap ∧ va_T .int t 32 (fun j => .int (z_t2 j)) A s s.heap := by
  have hs := flat_of_before _ hgv
  refine yj_tabs (f := z_t2) (by decide) (hts _ (List.mem_of_getElem? (i := 834) (by decide +kernel))) (hts _ (List.mem_of_getElem? (i := 75) (by decide +kernel))) (hs _ (by decide +kernel)) (hs _ (by decide +kernel)) (fun j hj => hs _ (yj_te2 j hj)) hA
theorem yj_kns {args : Array Value} {s : State} (hts : ∀ w ∈ lw_tbl, w.before args s = true) : ∃ D : va_G, ∀ (c : Nat) (q : vw_C), z_cl[c]? = some q → u_Kn s q.1 q.2.1 q.2.2 (D.1 c) (D.2 c) := by
  have hz : ∀ w ∈ z_tbl, w.before args s = true := fun w hw => hts w (List.mem_filter.mp hw).1
  obtain ⟨c0, i0, h0⟩ := u_known (C := RX0) (T := TX0) (N := 6) (n := 6) hz zc_0 (hts _ (List.mem_of_getElem? (i := 237) (by decide +kernel)))
  obtain ⟨c1, i1, h1⟩ := u_known (C := RX1) (T := TX1) (N := 9) (n := 9) hz zc_1 (hts _ (List.mem_of_getElem? (i := 133) (by decide +kernel)))
  obtain ⟨c2, i2, h2⟩ := u_known (C := RX2) (T := TX2) (N := 5) (n := 5) hz zc_2 (hts _ (List.mem_of_getElem? (i := 193) (by decide +kernel)))
  obtain ⟨c3, i3, h3⟩ := u_known (C := RX3) (T := TX3) (N := 4) (n := 4) hz zc_3 (hts _ (List.mem_of_getElem? (i := 168) (by decide +kernel)))
  obtain ⟨c4, i4, h4⟩ := u_known (C := RX4) (T := TX4) (N := 4) (n := 4) hz zc_4 (hts _ (List.mem_of_getElem? (i := 290) (by decide +kernel)))
  obtain ⟨c5, i5, h5⟩ := u_known (C := RX5) (T := TX5) (N := 5) (n := 5) hz zc_5 (hts _ (List.mem_of_getElem? (i := 264) (by decide +kernel)))
  obtain ⟨c6, i6, h6⟩ := u_known (C := RX6) (T := TX6) (N := 4) (n := 4) hz zc_6 (hts _ (List.mem_of_getElem? (i := 216) (by decide +kernel)))
  obtain ⟨c7, i7, h7⟩ := u_known (C := RX7) (T := TX7) (N := 8) (n := 8) hz zc_7 (hts _ (List.mem_of_getElem? (i := 90) (by decide +kernel)))
  obtain ⟨c8, i8, h8⟩ := u_known (C := RX8) (T := TX8) (N := 10) (n := 10) hz zc_8 (hts _ (List.mem_of_getElem? (i := 82) (by decide +kernel)))
  obtain ⟨c9, i9, h9⟩ := u_known (C := RX9) (T := TX9) (N := 42) (n := 42) hz zc_9 (hts _ (List.mem_of_getElem? (i := 909) (by decide +kernel)))
  refine ⟨(fun k => [c0, c1, c2, c3, c4, c5, c6, c7, c8, c9].getD k c0, fun k => [i0, i1, i2, i3, i4, i5, i6, i7, i8, i9].getD k i0), ?_⟩
  intro k q hq
  match k, hq with
  | 0, hq => cases hq; exact h0
  | 1, hq => cases hq; exact h1
  | 2, hq => cases hq; exact h2
  | 3, hq => cases hq; exact h3
  | 4, hq => cases hq; exact h4
  | 5, hq => cases hq; exact h5
  | 6, hq => cases hq; exact h6
  | 7, hq => cases hq; exact h7
  | 8, hq => cases hq; exact h8
  | 9, hq => cases hq; exact h9
  | k + 10, hq => simp [z_cl] at hq
theorem yj_ka {args : Array Value} {s : State} {ty : FieldType} (h : (Cond.arrayClass ty).before args s = true) : ∃ c : ClassId, ArrOfT s c ty ∧ s.vm.findClass ("[" ++ ty.toString) = some c := by
  obtain ⟨c, k, comp, h1, h2, h3⟩ := Cond.arrayClass_spec h
  exact ⟨c, fun n z => ⟨(fun k h => by cases h), k, h2, comp, h3⟩, h1⟩
theorem yj_ko {args : Array Value} {s : State} {C : String} (h : (Cond.arrayOver (.object C)).before args s = true) : ∃ c : ClassId, ArrOfT s c (.object C) ∧ va_RA s c (.object C) := by
  obtain ⟨comp, c, k, h1, h2, h3, h4, h5⟩ := Cond.arrayOver_spec h
  exact ⟨c, fun n z => ⟨(fun k h => by cases h), k, h3, comp, h4⟩, k, comp, h3, h4, h1, h5⟩
theorem yj_nst {args : Array Value} {s : State} (hts : ∀ w ∈ lw_tbl, w.before args s = true) : ∀ q ∈ z_nst, va_Nw (.methodLinkNest q.1 q.2.1 q.2.2.1 q.2.2.2) s := by
  intro q hq
  refine va_Nw.of (A := args) rfl (hts _ ?_)
  simp only [z_nst, List.mem_cons, List.not_mem_nil, or_false] at hq
  rcases hq with rfl | rfl | rfl | rfl | rfl | rfl | rfl | rfl | rfl | rfl
  · exact List.mem_of_getElem? (i := 91) (by decide +kernel)
  · exact List.mem_of_getElem? (i := 134) (by decide +kernel)
  · exact List.mem_of_getElem? (i := 169) (by decide +kernel)
  · exact List.mem_of_getElem? (i := 174) (by decide +kernel)
  · exact List.mem_of_getElem? (i := 194) (by decide +kernel)
  · exact List.mem_of_getElem? (i := 217) (by decide +kernel)
  · exact List.mem_of_getElem? (i := 222) (by decide +kernel)
  · exact List.mem_of_getElem? (i := 238) (by decide +kernel)
  · exact List.mem_of_getElem? (i := 265) (by decide +kernel)
  · exact List.mem_of_getElem? (i := 291) (by decide +kernel)
theorem yj_fx {s : State} {b : Nat} (hts : ∀ w ∈ lw_tbl, w.before #[Value.ref b] s = true) (hgv : (Jvm.Cond.and given_1 narrow_1).before #[Value.ref b] s = true) : ∃ (D : va_G) (tb : Nat → Nat) (cs : ClassId × ClassId × ClassId), (tb 1003 = b ∧ tb 2000 = 0) ∧ z_Fx D s.heap.size tb cs s := by
  have hA : ∀ a : Nat, a < s.heap.size → ¬ z_A s.heap.size a := fun a h => Nat.not_le.mpr h
  obtain ⟨t0, h0⟩ := yj_tb0 hts hgv hA
  obtain ⟨t1, h1⟩ := yj_tb1 hts hgv hA
  obtain ⟨t2, h2⟩ := yj_tb2 hts hgv hA
  obtain ⟨D, hD⟩ := yj_kns hts
  obtain ⟨ci, ai, ri⟩ := yj_ka (ty := .int) (hts _ (List.mem_of_getElem? (i := 131) (by decide +kernel)))
  obtain ⟨cl, al, rl⟩ := yj_ka (ty := .long) (hts _ (List.mem_of_getElem? (i := 214) (by decide +kernel)))
  obtain ⟨co, ao, ro⟩ := yj_ko (C := RX4) (hts _ (List.mem_of_getElem? (i := 289) (by decide +kernel)))
  have hO : va_AO RX4 s := va_AO.of (hts _ (List.mem_of_getElem? (i := 289) (by decide +kernel)))
  refine ⟨D, fun k => if k = 1000 then t0 else if k = 1001 then t1 else if k = 1002 then t2 else if k = 2000 then 0 else b, (ci, cl, co), ⟨rfl, rfl⟩, ⟨hD, ?_⟩, Nat.le_refl _, h0, h1, h2, hO, yj_nst hts⟩
  intro k q hq
  match k, hq with
  | 0, hq => cases hq; exact ⟨ai, ri⟩
  | 1, hq => cases hq; exact ⟨al, rl⟩
  | 2, hq => cases hq; exact ⟨ao, ro⟩
  | k + 3, hq => simp at hq
