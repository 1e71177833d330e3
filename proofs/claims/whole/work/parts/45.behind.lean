theorem z_H_gg {np sz k len : Nat} (hk : 42 ≤ k) (b : Bool) (L : Nat → Nat → Int64) (bd : Int32) : ∀ (r t : Nat) (Iv : Nat → Nat → Int32), z_H np sz k len Iv → z_H np sz k len (gx_X3_goThrough_3 b L k np sz len bd r t Iv)
  | 0, t, Iv, h => h
  | r + 1, t, Iv, h => by
    unfold gx_X3_goThrough_3
    exact z_H_gg hk b L bd r (t + 1) _ (z_H_ed hk (z_H_hc hk b L bd h))
theorem z_H_gt {np sz k len : Nat} (hk : 42 ≤ k) (b : Bool) (L : Nat → Nat → Int64) (bd : Int32) (days : Nat) {I : Nat → Nat → Int32} (h : z_H np sz k len I) : z_H np sz k len (m_X3_goThrough b I L k np sz len days bd) := z_H_gg hk b L bd days 0 I h
theorem z_in20 {x : Int32} (h1 : ¬ x < 0) (h2 : ¬ 20 < x) : x = nI x.toNatClampNeg ∧ x.toNatClampNeg ≤ 20 := by
  obtain ⟨j, hj, rfl⟩ := nI_of h1
  rw [nI_clamp hj]
  refine ⟨rfl, ?_⟩
  rcases Nat.lt_or_ge 20 j with q | q
  · exact absurd (nI_lt (a := 20) q hj) h2
  · exact q
def f_X8_behind (b : Bool) (I : Nat → Nat → Int32) (L : Nat → Nat → Int64) (np : Nat) (sz : Nat) (sh : Int32) (n : Int32) (one : Int32) (what : Int32) : Int32 := if what = 0 then if what = 2 then if (f_X8_isShelf sh) = 0 then (-1) else if n < 0 then (-1) else if 20 < n then (-1) else if (f_X7_has I 1 one) = 0 then if one = 0 then if (f_X8_bytesRefusal I sh) = 0 then if what = 0 then ((m_X3_goThrough b (m_X3_begin I np) L (42 + 2 * sh.toNatClampNeg) np sz (I (42 + 2 * sh.toNatClampNeg) 2).toNatClampNeg n.toNatClampNeg 0) 22 0) else if what = 1 then ((m_X3_goThrough b (m_X3_begin I np) L (42 + 2 * sh.toNatClampNeg) np sz (I (42 + 2 * sh.toNatClampNeg) 2).toNatClampNeg n.toNatClampNeg 0) 21 0) else if what = 2 then (f_X7_judgeBits (m_X3_goThrough b (m_X3_begin I np) L (42 + 2 * sh.toNatClampNeg) np sz (I (42 + 2 * sh.toNatClampNeg) 2).toNatClampNeg n.toNatClampNeg 0) 19 np) else ((m_X3_goThrough b (m_X3_begin I np) L (42 + 2 * sh.toNatClampNeg) np sz (I (42 + 2 * sh.toNatClampNeg) 2).toNatClampNeg n.toNatClampNeg 0) 18 2) else (f_X8_bytesRefusal I sh) else (-1) else if (f_X8_bytesRefusal I sh) = 0 then if what = 0 then ((m_X3_goThrough b (m_X3_begin I np) L (42 + 2 * sh.toNatClampNeg) np sz (I (42 + 2 * sh.toNatClampNeg) 2).toNatClampNeg n.toNatClampNeg 0) 22 one.toNatClampNeg) else if what = 1 then ((m_X3_goThrough b (m_X3_begin I np) L (42 + 2 * sh.toNatClampNeg) np sz (I (42 + 2 * sh.toNatClampNeg) 2).toNatClampNeg n.toNatClampNeg 0) 21 one.toNatClampNeg) else if what = 2 then (f_X7_judgeBits (m_X3_goThrough b (m_X3_begin I np) L (42 + 2 * sh.toNatClampNeg) np sz (I (42 + 2 * sh.toNatClampNeg) 2).toNatClampNeg n.toNatClampNeg 0) 19 np) else ((m_X3_goThrough b (m_X3_begin I np) L (42 + 2 * sh.toNatClampNeg) np sz (I (42 + 2 * sh.toNatClampNeg) 2).toNatClampNeg n.toNatClampNeg 0) 18 2) else (f_X8_bytesRefusal I sh) else if what = 3 then if (f_X8_isShelf sh) = 0 then (-1) else if n < 0 then (-1) else if 20 < n then (-1) else if (f_X7_has I 1 one) = 0 then if one = 0 then if (f_X8_bytesRefusal I sh) = 0 then if what = 0 then ((m_X3_goThrough b (m_X3_begin I np) L (42 + 2 * sh.toNatClampNeg) np sz (I (42 + 2 * sh.toNatClampNeg) 2).toNatClampNeg n.toNatClampNeg 0) 22 0) else if what = 1 then ((m_X3_goThrough b (m_X3_begin I np) L (42 + 2 * sh.toNatClampNeg) np sz (I (42 + 2 * sh.toNatClampNeg) 2).toNatClampNeg n.toNatClampNeg 0) 21 0) else if what = 2 then (f_X7_judgeBits (m_X3_goThrough b (m_X3_begin I np) L (42 + 2 * sh.toNatClampNeg) np sz (I (42 + 2 * sh.toNatClampNeg) 2).toNatClampNeg n.toNatClampNeg 0) 19 np) else ((m_X3_goThrough b (m_X3_begin I np) L (42 + 2 * sh.toNatClampNeg) np sz (I (42 + 2 * sh.toNatClampNeg) 2).toNatClampNeg n.toNatClampNeg 0) 18 2) else (f_X8_bytesRefusal I sh) else (-1) else if (f_X8_bytesRefusal I sh) = 0 then if what = 0 then ((m_X3_goThrough b (m_X3_begin I np) L (42 + 2 * sh.toNatClampNeg) np sz (I (42 + 2 * sh.toNatClampNeg) 2).toNatClampNeg n.toNatClampNeg 0) 22 one.toNatClampNeg) else if what = 1 then ((m_X3_goThrough b (m_X3_begin I np) L (42 + 2 * sh.toNatClampNeg) np sz (I (42 + 2 * sh.toNatClampNeg) 2).toNatClampNeg n.toNatClampNeg 0) 21 one.toNatClampNeg) else if what = 2 then (f_X7_judgeBits (m_X3_goThrough b (m_X3_begin I np) L (42 + 2 * sh.toNatClampNeg) np sz (I (42 + 2 * sh.toNatClampNeg) 2).toNatClampNeg n.toNatClampNeg 0) 19 np) else ((m_X3_goThrough b (m_X3_begin I np) L (42 + 2 * sh.toNatClampNeg) np sz (I (42 + 2 * sh.toNatClampNeg) 2).toNatClampNeg n.toNatClampNeg 0) 18 2) else (f_X8_bytesRefusal I sh) else if (f_X8_isShelf sh) = 0 then (-1) else if n < 0 then (-1) else if 20 < n then (-1) else if (f_X7_has I 1 one) = 0 then (-1) else if (f_X8_bytesRefusal I sh) = 0 then if what = 0 then ((m_X3_goThrough b (m_X3_begin I np) L (42 + 2 * sh.toNatClampNeg) np sz (I (42 + 2 * sh.toNatClampNeg) 2).toNatClampNeg n.toNatClampNeg 0) 22 one.toNatClampNeg) else if what = 1 then ((m_X3_goThrough b (m_X3_begin I np) L (42 + 2 * sh.toNatClampNeg) np sz (I (42 + 2 * sh.toNatClampNeg) 2).toNatClampNeg n.toNatClampNeg 0) 21 one.toNatClampNeg) else if what = 2 then (f_X7_judgeBits (m_X3_goThrough b (m_X3_begin I np) L (42 + 2 * sh.toNatClampNeg) np sz (I (42 + 2 * sh.toNatClampNeg) 2).toNatClampNeg n.toNatClampNeg 0) 19 np) else ((m_X3_goThrough b (m_X3_begin I np) L (42 + 2 * sh.toNatClampNeg) np sz (I (42 + 2 * sh.toNatClampNeg) 2).toNatClampNeg n.toNatClampNeg 0) 18 2) else (f_X8_bytesRefusal I sh) else if what = 1 then if what = 2 then if (f_X8_isShelf sh) = 0 then (-1) else if n < 0 then (-1) else if 20 < n then (-1) else if (f_X7_has I 1 one) = 0 then if one = 0 then if (f_X8_bytesRefusal I sh) = 0 then if what = 0 then ((m_X3_goThrough b (m_X3_begin I np) L (42 + 2 * sh.toNatClampNeg) np sz (I (42 + 2 * sh.toNatClampNeg) 2).toNatClampNeg n.toNatClampNeg 0) 22 0) else if what = 1 then ((m_X3_goThrough b (m_X3_begin I np) L (42 + 2 * sh.toNatClampNeg) np sz (I (42 + 2 * sh.toNatClampNeg) 2).toNatClampNeg n.toNatClampNeg 0) 21 0) else if what = 2 then (f_X7_judgeBits (m_X3_goThrough b (m_X3_begin I np) L (42 + 2 * sh.toNatClampNeg) np sz (I (42 + 2 * sh.toNatClampNeg) 2).toNatClampNeg n.toNatClampNeg 0) 19 np) else ((m_X3_goThrough b (m_X3_begin I np) L (42 + 2 * sh.toNatClampNeg) np sz (I (42 + 2 * sh.toNatClampNeg) 2).toNatClampNeg n.toNatClampNeg 0) 18 2) else (f_X8_bytesRefusal I sh) else (-1) else if (f_X8_bytesRefusal I sh) = 0 then if what = 0 then ((m_X3_goThrough b (m_X3_begin I np) L (42 + 2 * sh.toNatClampNeg) np sz (I (42 + 2 * sh.toNatClampNeg) 2).toNatClampNeg n.toNatClampNeg 0) 22 one.toNatClampNeg) else if what = 1 then ((m_X3_goThrough b (m_X3_begin I np) L (42 + 2 * sh.toNatClampNeg) np sz (I (42 + 2 * sh.toNatClampNeg) 2).toNatClampNeg n.toNatClampNeg 0) 21 one.toNatClampNeg) else if what = 2 then (f_X7_judgeBits (m_X3_goThrough b (m_X3_begin I np) L (42 + 2 * sh.toNatClampNeg) np sz (I (42 + 2 * sh.toNatClampNeg) 2).toNatClampNeg n.toNatClampNeg 0) 19 np) else ((m_X3_goThrough b (m_X3_begin I np) L (42 + 2 * sh.toNatClampNeg) np sz (I (42 + 2 * sh.toNatClampNeg) 2).toNatClampNeg n.toNatClampNeg 0) 18 2) else (f_X8_bytesRefusal I sh) else if what = 3 then if (f_X8_isShelf sh) = 0 then (-1) else if n < 0 then (-1) else if 20 < n then (-1) else if (f_X7_has I 1 one) = 0 then if one = 0 then if (f_X8_bytesRefusal I sh) = 0 then if what = 0 then ((m_X3_goThrough b (m_X3_begin I np) L (42 + 2 * sh.toNatClampNeg) np sz (I (42 + 2 * sh.toNatClampNeg) 2).toNatClampNeg n.toNatClampNeg 0) 22 0) else if what = 1 then ((m_X3_goThrough b (m_X3_begin I np) L (42 + 2 * sh.toNatClampNeg) np sz (I (42 + 2 * sh.toNatClampNeg) 2).toNatClampNeg n.toNatClampNeg 0) 21 0) else if what = 2 then (f_X7_judgeBits (m_X3_goThrough b (m_X3_begin I np) L (42 + 2 * sh.toNatClampNeg) np sz (I (42 + 2 * sh.toNatClampNeg) 2).toNatClampNeg n.toNatClampNeg 0) 19 np) else ((m_X3_goThrough b (m_X3_begin I np) L (42 + 2 * sh.toNatClampNeg) np sz (I (42 + 2 * sh.toNatClampNeg) 2).toNatClampNeg n.toNatClampNeg 0) 18 2) else (f_X8_bytesRefusal I sh) else (-1) else if (f_X8_bytesRefusal I sh) = 0 then if what = 0 then ((m_X3_goThrough b (m_X3_begin I np) L (42 + 2 * sh.toNatClampNeg) np sz (I (42 + 2 * sh.toNatClampNeg) 2).toNatClampNeg n.toNatClampNeg 0) 22 one.toNatClampNeg) else if what = 1 then ((m_X3_goThrough b (m_X3_begin I np) L (42 + 2 * sh.toNatClampNeg) np sz (I (42 + 2 * sh.toNatClampNeg) 2).toNatClampNeg n.toNatClampNeg 0) 21 one.toNatClampNeg) else if what = 2 then (f_X7_judgeBits (m_X3_goThrough b (m_X3_begin I np) L (42 + 2 * sh.toNatClampNeg) np sz (I (42 + 2 * sh.toNatClampNeg) 2).toNatClampNeg n.toNatClampNeg 0) 19 np) else ((m_X3_goThrough b (m_X3_begin I np) L (42 + 2 * sh.toNatClampNeg) np sz (I (42 + 2 * sh.toNatClampNeg) 2).toNatClampNeg n.toNatClampNeg 0) 18 2) else (f_X8_bytesRefusal I sh) else if (f_X8_isShelf sh) = 0 then (-1) else if n < 0 then (-1) else if 20 < n then (-1) else if (f_X7_has I 1 one) = 0 then (-1) else if (f_X8_bytesRefusal I sh) = 0 then if what = 0 then ((m_X3_goThrough b (m_X3_begin I np) L (42 + 2 * sh.toNatClampNeg) np sz (I (42 + 2 * sh.toNatClampNeg) 2).toNatClampNeg n.toNatClampNeg 0) 22 one.toNatClampNeg) else if what = 1 then ((m_X3_goThrough b (m_X3_begin I np) L (42 + 2 * sh.toNatClampNeg) np sz (I (42 + 2 * sh.toNatClampNeg) 2).toNatClampNeg n.toNatClampNeg 0) 21 one.toNatClampNeg) else if what = 2 then (f_X7_judgeBits (m_X3_goThrough b (m_X3_begin I np) L (42 + 2 * sh.toNatClampNeg) np sz (I (42 + 2 * sh.toNatClampNeg) 2).toNatClampNeg n.toNatClampNeg 0) 19 np) else ((m_X3_goThrough b (m_X3_begin I np) L (42 + 2 * sh.toNatClampNeg) np sz (I (42 + 2 * sh.toNatClampNeg) 2).toNatClampNeg n.toNatClampNeg 0) 18 2) else (f_X8_bytesRefusal I sh) else if what = 2 then if (f_X8_isShelf sh) = 0 then (-1) else if n < 0 then (-1) else if 20 < n then (-1) else if one = 0 then if (f_X8_bytesRefusal I sh) = 0 then if what = 0 then ((m_X3_goThrough b (m_X3_begin I np) L (42 + 2 * sh.toNatClampNeg) np sz (I (42 + 2 * sh.toNatClampNeg) 2).toNatClampNeg n.toNatClampNeg 0) 22 0) else if what = 1 then ((m_X3_goThrough b (m_X3_begin I np) L (42 + 2 * sh.toNatClampNeg) np sz (I (42 + 2 * sh.toNatClampNeg) 2).toNatClampNeg n.toNatClampNeg 0) 21 0) else if what = 2 then (f_X7_judgeBits (m_X3_goThrough b (m_X3_begin I np) L (42 + 2 * sh.toNatClampNeg) np sz (I (42 + 2 * sh.toNatClampNeg) 2).toNatClampNeg n.toNatClampNeg 0) 19 np) else ((m_X3_goThrough b (m_X3_begin I np) L (42 + 2 * sh.toNatClampNeg) np sz (I (42 + 2 * sh.toNatClampNeg) 2).toNatClampNeg n.toNatClampNeg 0) 18 2) else (f_X8_bytesRefusal I sh) else (-1) else if what = 3 then if (f_X8_isShelf sh) = 0 then (-1) else if n < 0 then (-1) else if 20 < n then (-1) else if one = 0 then if (f_X8_bytesRefusal I sh) = 0 then if what = 0 then ((m_X3_goThrough b (m_X3_begin I np) L (42 + 2 * sh.toNatClampNeg) np sz (I (42 + 2 * sh.toNatClampNeg) 2).toNatClampNeg n.toNatClampNeg 0) 22 0) else if what = 1 then ((m_X3_goThrough b (m_X3_begin I np) L (42 + 2 * sh.toNatClampNeg) np sz (I (42 + 2 * sh.toNatClampNeg) 2).toNatClampNeg n.toNatClampNeg 0) 21 0) else if what = 2 then (f_X7_judgeBits (m_X3_goThrough b (m_X3_begin I np) L (42 + 2 * sh.toNatClampNeg) np sz (I (42 + 2 * sh.toNatClampNeg) 2).toNatClampNeg n.toNatClampNeg 0) 19 np) else ((m_X3_goThrough b (m_X3_begin I np) L (42 + 2 * sh.toNatClampNeg) np sz (I (42 + 2 * sh.toNatClampNeg) 2).toNatClampNeg n.toNatClampNeg 0) 18 2) else (f_X8_bytesRefusal I sh) else (-1) else if (f_X8_isShelf sh) = 0 then (-1) else if n < 0 then (-1) else if 20 < n then (-1) else (-1)
def m_X8_behind (b : Bool) (I : Nat → Nat → Int32) (L : Nat → Nat → Int64) (np : Nat) (sz : Nat) (sh : Int32) (n : Int32) (one : Int32) (what : Int32) : Nat → Nat → Int32 := if what = 0 then if what = 2 then if (f_X8_isShelf sh) = 0 then I else if n < 0 then I else if 20 < n then I else if (f_X7_has I 1 one) = 0 then if one = 0 then if (f_X8_bytesRefusal I sh) = 0 then if what = 0 then (m_X3_goThrough b (m_X3_begin I np) L (42 + 2 * sh.toNatClampNeg) np sz (I (42 + 2 * sh.toNatClampNeg) 2).toNatClampNeg n.toNatClampNeg 0) else if what = 1 then (m_X3_goThrough b (m_X3_begin I np) L (42 + 2 * sh.toNatClampNeg) np sz (I (42 + 2 * sh.toNatClampNeg) 2).toNatClampNeg n.toNatClampNeg 0) else if what = 2 then (m_X3_goThrough b (m_X3_begin I np) L (42 + 2 * sh.toNatClampNeg) np sz (I (42 + 2 * sh.toNatClampNeg) 2).toNatClampNeg n.toNatClampNeg 0) else (m_X3_goThrough b (m_X3_begin I np) L (42 + 2 * sh.toNatClampNeg) np sz (I (42 + 2 * sh.toNatClampNeg) 2).toNatClampNeg n.toNatClampNeg 0) else I else I else if (f_X8_bytesRefusal I sh) = 0 then if what = 0 then (m_X3_goThrough b (m_X3_begin I np) L (42 + 2 * sh.toNatClampNeg) np sz (I (42 + 2 * sh.toNatClampNeg) 2).toNatClampNeg n.toNatClampNeg 0) else if what = 1 then (m_X3_goThrough b (m_X3_begin I np) L (42 + 2 * sh.toNatClampNeg) np sz (I (42 + 2 * sh.toNatClampNeg) 2).toNatClampNeg n.toNatClampNeg 0) else if what = 2 then (m_X3_goThrough b (m_X3_begin I np) L (42 + 2 * sh.toNatClampNeg) np sz (I (42 + 2 * sh.toNatClampNeg) 2).toNatClampNeg n.toNatClampNeg 0) else (m_X3_goThrough b (m_X3_begin I np) L (42 + 2 * sh.toNatClampNeg) np sz (I (42 + 2 * sh.toNatClampNeg) 2).toNatClampNeg n.toNatClampNeg 0) else I else if what = 3 then if (f_X8_isShelf sh) = 0 then I else if n < 0 then I else if 20 < n then I else if (f_X7_has I 1 one) = 0 then if one = 0 then if (f_X8_bytesRefusal I sh) = 0 then if what = 0 then (m_X3_goThrough b (m_X3_begin I np) L (42 + 2 * sh.toNatClampNeg) np sz (I (42 + 2 * sh.toNatClampNeg) 2).toNatClampNeg n.toNatClampNeg 0) else if what = 1 then (m_X3_goThrough b (m_X3_begin I np) L (42 + 2 * sh.toNatClampNeg) np sz (I (42 + 2 * sh.toNatClampNeg) 2).toNatClampNeg n.toNatClampNeg 0) else if what = 2 then (m_X3_goThrough b (m_X3_begin I np) L (42 + 2 * sh.toNatClampNeg) np sz (I (42 + 2 * sh.toNatClampNeg) 2).toNatClampNeg n.toNatClampNeg 0) else (m_X3_goThrough b (m_X3_begin I np) L (42 + 2 * sh.toNatClampNeg) np sz (I (42 + 2 * sh.toNatClampNeg) 2).toNatClampNeg n.toNatClampNeg 0) else I else I else if (f_X8_bytesRefusal I sh) = 0 then if what = 0 then (m_X3_goThrough b (m_X3_begin I np) L (42 + 2 * sh.toNatClampNeg) np sz (I (42 + 2 * sh.toNatClampNeg) 2).toNatClampNeg n.toNatClampNeg 0) else if what = 1 then (m_X3_goThrough b (m_X3_begin I np) L (42 + 2 * sh.toNatClampNeg) np sz (I (42 + 2 * sh.toNatClampNeg) 2).toNatClampNeg n.toNatClampNeg 0) else if what = 2 then (m_X3_goThrough b (m_X3_begin I np) L (42 + 2 * sh.toNatClampNeg) np sz (I (42 + 2 * sh.toNatClampNeg) 2).toNatClampNeg n.toNatClampNeg 0) else (m_X3_goThrough b (m_X3_begin I np) L (42 + 2 * sh.toNatClampNeg) np sz (I (42 + 2 * sh.toNatClampNeg) 2).toNatClampNeg n.toNatClampNeg 0) else I else if (f_X8_isShelf sh) = 0 then I else if n < 0 then I else if 20 < n then I else if (f_X7_has I 1 one) = 0 then I else if (f_X8_bytesRefusal I sh) = 0 then if what = 0 then (m_X3_goThrough b (m_X3_begin I np) L (42 + 2 * sh.toNatClampNeg) np sz (I (42 + 2 * sh.toNatClampNeg) 2).toNatClampNeg n.toNatClampNeg 0) else if what = 1 then (m_X3_goThrough b (m_X3_begin I np) L (42 + 2 * sh.toNatClampNeg) np sz (I (42 + 2 * sh.toNatClampNeg) 2).toNatClampNeg n.toNatClampNeg 0) else if what = 2 then (m_X3_goThrough b (m_X3_begin I np) L (42 + 2 * sh.toNatClampNeg) np sz (I (42 + 2 * sh.toNatClampNeg) 2).toNatClampNeg n.toNatClampNeg 0) else (m_X3_goThrough b (m_X3_begin I np) L (42 + 2 * sh.toNatClampNeg) np sz (I (42 + 2 * sh.toNatClampNeg) 2).toNatClampNeg n.toNatClampNeg 0) else I else if what = 1 then if what = 2 then if (f_X8_isShelf sh) = 0 then I else if n < 0 then I else if 20 < n then I else if (f_X7_has I 1 one) = 0 then if one = 0 then if (f_X8_bytesRefusal I sh) = 0 then if what = 0 then (m_X3_goThrough b (m_X3_begin I np) L (42 + 2 * sh.toNatClampNeg) np sz (I (42 + 2 * sh.toNatClampNeg) 2).toNatClampNeg n.toNatClampNeg 0) else if what = 1 then (m_X3_goThrough b (m_X3_begin I np) L (42 + 2 * sh.toNatClampNeg) np sz (I (42 + 2 * sh.toNatClampNeg) 2).toNatClampNeg n.toNatClampNeg 0) else if what = 2 then (m_X3_goThrough b (m_X3_begin I np) L (42 + 2 * sh.toNatClampNeg) np sz (I (42 + 2 * sh.toNatClampNeg) 2).toNatClampNeg n.toNatClampNeg 0) else (m_X3_goThrough b (m_X3_begin I np) L (42 + 2 * sh.toNatClampNeg) np sz (I (42 + 2 * sh.toNatClampNeg) 2).toNatClampNeg n.toNatClampNeg 0) else I else I else if (f_X8_bytesRefusal I sh) = 0 then if what = 0 then (m_X3_goThrough b (m_X3_begin I np) L (42 + 2 * sh.toNatClampNeg) np sz (I (42 + 2 * sh.toNatClampNeg) 2).toNatClampNeg n.toNatClampNeg 0) else if what = 1 then (m_X3_goThrough b (m_X3_begin I np) L (42 + 2 * sh.toNatClampNeg) np sz (I (42 + 2 * sh.toNatClampNeg) 2).toNatClampNeg n.toNatClampNeg 0) else if what = 2 then (m_X3_goThrough b (m_X3_begin I np) L (42 + 2 * sh.toNatClampNeg) np sz (I (42 + 2 * sh.toNatClampNeg) 2).toNatClampNeg n.toNatClampNeg 0) else (m_X3_goThrough b (m_X3_begin I np) L (42 + 2 * sh.toNatClampNeg) np sz (I (42 + 2 * sh.toNatClampNeg) 2).toNatClampNeg n.toNatClampNeg 0) else I else if what = 3 then if (f_X8_isShelf sh) = 0 then I else if n < 0 then I else if 20 < n then I else if (f_X7_has I 1 one) = 0 then if one = 0 then if (f_X8_bytesRefusal I sh) = 0 then if what = 0 then (m_X3_goThrough b (m_X3_begin I np) L (42 + 2 * sh.toNatClampNeg) np sz (I (42 + 2 * sh.toNatClampNeg) 2).toNatClampNeg n.toNatClampNeg 0) else if what = 1 then (m_X3_goThrough b (m_X3_begin I np) L (42 + 2 * sh.toNatClampNeg) np sz (I (42 + 2 * sh.toNatClampNeg) 2).toNatClampNeg n.toNatClampNeg 0) else if what = 2 then (m_X3_goThrough b (m_X3_begin I np) L (42 + 2 * sh.toNatClampNeg) np sz (I (42 + 2 * sh.toNatClampNeg) 2).toNatClampNeg n.toNatClampNeg 0) else (m_X3_goThrough b (m_X3_begin I np) L (42 + 2 * sh.toNatClampNeg) np sz (I (42 + 2 * sh.toNatClampNeg) 2).toNatClampNeg n.toNatClampNeg 0) else I else I else if (f_X8_bytesRefusal I sh) = 0 then if what = 0 then (m_X3_goThrough b (m_X3_begin I np) L (42 + 2 * sh.toNatClampNeg) np sz (I (42 + 2 * sh.toNatClampNeg) 2).toNatClampNeg n.toNatClampNeg 0) else if what = 1 then (m_X3_goThrough b (m_X3_begin I np) L (42 + 2 * sh.toNatClampNeg) np sz (I (42 + 2 * sh.toNatClampNeg) 2).toNatClampNeg n.toNatClampNeg 0) else if what = 2 then (m_X3_goThrough b (m_X3_begin I np) L (42 + 2 * sh.toNatClampNeg) np sz (I (42 + 2 * sh.toNatClampNeg) 2).toNatClampNeg n.toNatClampNeg 0) else (m_X3_goThrough b (m_X3_begin I np) L (42 + 2 * sh.toNatClampNeg) np sz (I (42 + 2 * sh.toNatClampNeg) 2).toNatClampNeg n.toNatClampNeg 0) else I else if (f_X8_isShelf sh) = 0 then I else if n < 0 then I else if 20 < n then I else if (f_X7_has I 1 one) = 0 then I else if (f_X8_bytesRefusal I sh) = 0 then if what = 0 then (m_X3_goThrough b (m_X3_begin I np) L (42 + 2 * sh.toNatClampNeg) np sz (I (42 + 2 * sh.toNatClampNeg) 2).toNatClampNeg n.toNatClampNeg 0) else if what = 1 then (m_X3_goThrough b (m_X3_begin I np) L (42 + 2 * sh.toNatClampNeg) np sz (I (42 + 2 * sh.toNatClampNeg) 2).toNatClampNeg n.toNatClampNeg 0) else if what = 2 then (m_X3_goThrough b (m_X3_begin I np) L (42 + 2 * sh.toNatClampNeg) np sz (I (42 + 2 * sh.toNatClampNeg) 2).toNatClampNeg n.toNatClampNeg 0) else (m_X3_goThrough b (m_X3_begin I np) L (42 + 2 * sh.toNatClampNeg) np sz (I (42 + 2 * sh.toNatClampNeg) 2).toNatClampNeg n.toNatClampNeg 0) else I else if what = 2 then if (f_X8_isShelf sh) = 0 then I else if n < 0 then I else if 20 < n then I else if one = 0 then if (f_X8_bytesRefusal I sh) = 0 then if what = 0 then (m_X3_goThrough b (m_X3_begin I np) L (42 + 2 * sh.toNatClampNeg) np sz (I (42 + 2 * sh.toNatClampNeg) 2).toNatClampNeg n.toNatClampNeg 0) else if what = 1 then (m_X3_goThrough b (m_X3_begin I np) L (42 + 2 * sh.toNatClampNeg) np sz (I (42 + 2 * sh.toNatClampNeg) 2).toNatClampNeg n.toNatClampNeg 0) else if what = 2 then (m_X3_goThrough b (m_X3_begin I np) L (42 + 2 * sh.toNatClampNeg) np sz (I (42 + 2 * sh.toNatClampNeg) 2).toNatClampNeg n.toNatClampNeg 0) else (m_X3_goThrough b (m_X3_begin I np) L (42 + 2 * sh.toNatClampNeg) np sz (I (42 + 2 * sh.toNatClampNeg) 2).toNatClampNeg n.toNatClampNeg 0) else I else I else if what = 3 then if (f_X8_isShelf sh) = 0 then I else if n < 0 then I else if 20 < n then I else if one = 0 then if (f_X8_bytesRefusal I sh) = 0 then if what = 0 then (m_X3_goThrough b (m_X3_begin I np) L (42 + 2 * sh.toNatClampNeg) np sz (I (42 + 2 * sh.toNatClampNeg) 2).toNatClampNeg n.toNatClampNeg 0) else if what = 1 then (m_X3_goThrough b (m_X3_begin I np) L (42 + 2 * sh.toNatClampNeg) np sz (I (42 + 2 * sh.toNatClampNeg) 2).toNatClampNeg n.toNatClampNeg 0) else if what = 2 then (m_X3_goThrough b (m_X3_begin I np) L (42 + 2 * sh.toNatClampNeg) np sz (I (42 + 2 * sh.toNatClampNeg) 2).toNatClampNeg n.toNatClampNeg 0) else (m_X3_goThrough b (m_X3_begin I np) L (42 + 2 * sh.toNatClampNeg) np sz (I (42 + 2 * sh.toNatClampNeg) 2).toNatClampNeg n.toNatClampNeg 0) else I else I else if (f_X8_isShelf sh) = 0 then I else if n < 0 then I else if 20 < n then I else I
set_option maxHeartbeats 2000000 in
set_option maxRecDepth 100000 in
theorem c_X8_behind (d : Nat) (hd : 6 ≤ d) (b : Bool) (I : Nat → Nat → Int32) (L : Nat → Nat → Int64) (np : Nat) (hnp : I 1 0 = nI np) (hn10 : np ≤ 10) (sz : Nat) (hsz : I 13 4 = nI sz) (hs121 : sz ≤ 121) (hsl : ∀ j, j < 6 → I (42 + 2 * j) 2 = nI (I (42 + 2 * j) 2).toNatClampNeg ∧ (I (42 + 2 * j) 2).toNatClampNeg ≤ 60) (sh : Int32) (n : Int32) (one : Int32) (what : Int32) : z_CT zm_X8_behind d [.ref 0, .int sh, .int n, .int one, .int what] SH (I, L, z_R b) 0 0 (z_ret (some (.int (f_X8_behind b I L np sz sh n one what))) ((m_X8_behind b I L np sz sh n one what), L, z_R b)) := by
  refine z_enter (by decide +kernel) (Nat.le_of_ble_eq_true rfl) ?_
  have hentry : PW zm_X8_behind d 0 [(0, .ref 0), (1, .int sh), (2, .int n), (3, .int one), (4, .int what)] [] SH (I, L, z_R b) 0 0 (z_ret (some (.int (f_X8_behind b I L np sz sh n one what))) ((m_X8_behind b I L np sz sh n one what), L, z_R b)) := by
    refine p_iload (z_dec zd_X8_behind 0 rfl) 4 rfl (n := 2) rfl ?_
    refine p_if_eq (z_dec zd_X8_behind 1 rfl) (t := 11) (by decide) (n := 5) rfl (fun h2 => ?_) (fun h2 => ?_)
    · refine p_iconst (z_dec zd_X8_behind 5 rfl) (v := 1) (by decide) (n := 12) rfl ?_
      refine p_goto (z_dec zd_X8_behind 6 rfl) (t := 16) (by decide) ?_
      refine p_istore (z_dec zd_X8_behind 8 rfl) (lv2 := [(5, .int 1), (0, .ref 0), (1, .int sh), (2, .int n), (3, .int one), (4, .int what)]) (by decide) rfl (n := 18) rfl ?_
      refine p_iload (z_dec zd_X8_behind 9 rfl) 5 rfl (n := 20) rfl ?_
      refine p_iconst (z_dec zd_X8_behind 10 rfl) (v := 2) (by decide) (n := 21) rfl ?_
      refine p_icmp_eq (z_dec zd_X8_behind 11 rfl) (t := 30) (by decide) (n := 24) rfl (fun h21 => ?_) (fun h21 => ?_)
      · refine p_iconst (z_dec zd_X8_behind 15 rfl) (v := 1) (by decide) (n := 31) rfl ?_
        refine p_goto (z_dec zd_X8_behind 16 rfl) (t := 35) (by decide) ?_
        refine p_istore (z_dec zd_X8_behind 18 rfl) (lv2 := [(6, .int 1), (5, .int 1), (0, .ref 0), (1, .int sh), (2, .int n), (3, .int one), (4, .int what)]) (by decide) rfl (n := 37) rfl ?_
        refine p_iload_n (z_dec zd_X8_behind 19 rfl) rfl 3 rfl (n := 38) rfl ?_
        refine q_callS (As := [.int sh]) (rest := []) (z_dec zd_X8_behind 20 rfl) zk_X8_80 zs_X8_isShelf (c_X8_isShelf (d - 1) (by omega) b I L sh) rfl rfl (Nat.le_of_ble_eq_true rfl) (by omega) (n := 41) rfl ?_
        show PW zm_X8_behind d 41 [(6, .int 1), (5, .int 1), (0, .ref 0), (1, .int sh), (2, .int n), (3, .int one), (4, .int what)] [.int (f_X8_isShelf sh)] SH (I, L, z_R b) 0 0 _
        refine p_if_eq (z_dec zd_X8_behind 21 rfl) (t := 79) (by decide) (n := 44) rfl (fun h41 => ?_) (fun h41 => ?_)
        · refine p_iconst (z_dec zd_X8_behind 38 rfl) (v := (-1)) (by decide) (n := 80) rfl ?_
          exact p_iret (z_dec zd_X8_behind 39 rfl) rfl ⟨(by unfold f_X8_behind; rw [if_pos h2, if_pos h21, if_pos h41]), rfl, (z_3 (by unfold m_X8_behind; rw [if_pos h2, if_pos h21, if_pos h41]) rfl)⟩
        · have hj_sh := z_shc h41
          refine p_iload_n (z_dec zd_X8_behind 22 rfl) rfl 4 rfl (n := 45) rfl ?_
          refine p_if_lt (z_dec zd_X8_behind 23 rfl) (t := 79) (by decide) (n := 48) rfl (fun h45 => ?_) (fun h45 => ?_)
          · refine p_iconst (z_dec zd_X8_behind 38 rfl) (v := (-1)) (by decide) (n := 80) rfl ?_
            exact p_iret (z_dec zd_X8_behind 39 rfl) rfl ⟨(by unfold f_X8_behind; rw [if_pos h2, if_pos h21, if_neg h41, if_pos h45]), rfl, (z_3 (by unfold m_X8_behind; rw [if_pos h2, if_pos h21, if_neg h41, if_pos h45]) rfl)⟩
          · refine p_iload_n (z_dec zd_X8_behind 24 rfl) rfl 4 rfl (n := 49) rfl ?_
            refine p_bipush (z_dec zd_X8_behind 25 rfl) (v := 20) (by decide) (n := 51) rfl ?_
            refine p_icmp_gt (z_dec zd_X8_behind 26 rfl) (t := 79) (by decide) (n := 54) rfl (fun h51 => ?_) (fun h51 => ?_)
            · refine p_iconst (z_dec zd_X8_behind 38 rfl) (v := (-1)) (by decide) (n := 80) rfl ?_
              exact p_iret (z_dec zd_X8_behind 39 rfl) rfl ⟨(by unfold f_X8_behind; rw [if_pos h2, if_pos h21, if_neg h41, if_neg h45, if_pos h51]), rfl, (z_3 (by unfold m_X8_behind; rw [if_pos h2, if_pos h21, if_neg h41, if_neg h45, if_pos h51]) rfl)⟩
            · have hn20 := z_in20 h45 h51
              refine p_iload (z_dec zd_X8_behind 27 rfl) 1 rfl (n := 56) rfl ?_
              refine p_if_eq (z_dec zd_X8_behind 28 rfl) (t := 70) (by decide) (n := 59) rfl (fun h56 => ?_) (fun h56 => ?_)
              · exact absurd h56 (by decide)
              · refine p_aload_n (z_dec zd_X8_behind 29 rfl) rfl 2 rfl (n := 60) rfl ?_
                refine q_getR (z_dec zd_X8_behind 30 rfl) zf_X8_10 (i := 1) rfl rfl (n := 63) rfl ?_
                refine p_iload_n (z_dec zd_X8_behind 31 rfl) rfl 5 rfl (n := 64) rfl ?_
                refine q_callV (As := [.int one]) (rest := []) (z_dec zd_X8_behind 32 rfl) zk_X8_133 zv_X7_has (c_X7_has (d - 1) (by omega) b I L 1 (z_Yd1 b) one) rfl ⟨_, _, rfl⟩ rfl rfl (Nat.le_of_ble_eq_true rfl) (by omega) (n := 67) rfl ?_
                show PW zm_X8_behind d 67 [(6, .int 1), (5, .int 1), (0, .ref 0), (1, .int sh), (2, .int n), (3, .int one), (4, .int what)] [.int (f_X7_has I 1 one)] SH (I, L, z_R b) 0 0 _
                refine p_if_ne (z_dec zd_X8_behind 33 rfl) (t := 81) (by decide) (n := 70) rfl (fun h67 => ?_) (fun h67 => ?_)
                · have hj := z_has hnp hn10 h67
                  refine p_aload_n (z_dec zd_X8_behind 40 rfl) rfl 2 rfl (n := 82) rfl ?_
                  refine p_iload_n (z_dec zd_X8_behind 41 rfl) rfl 3 rfl (n := 83) rfl ?_
                  refine q_callV (As := [.int sh]) (rest := []) (z_dec zd_X8_behind 42 rfl) zk_X8_142 zv_X8_bytesRefusal (c_X8_bytesRefusal (d - 1) (by omega) b I L sh) rfl ⟨_, _, rfl⟩ rfl rfl (Nat.le_of_ble_eq_true rfl) (by omega) (n := 86) rfl ?_
                  show PW zm_X8_behind d 86 [(6, .int 1), (5, .int 1), (0, .ref 0), (1, .int sh), (2, .int n), (3, .int one), (4, .int what)] [.int (f_X8_bytesRefusal I sh)] SH (I, L, z_R b) 0 0 _
                  refine p_istore (z_dec zd_X8_behind 43 rfl) (lv2 := [(7, .int (f_X8_bytesRefusal I sh)), (6, .int 1), (5, .int 1), (0, .ref 0), (1, .int sh), (2, .int n), (3, .int one), (4, .int what)]) (by decide) rfl (n := 88) rfl ?_
                  refine p_iload (z_dec zd_X8_behind 44 rfl) 0 rfl (n := 90) rfl ?_
                  refine p_if_eq (z_dec zd_X8_behind 45 rfl) (t := 96) (by decide) (n := 93) rfl (fun h90 => ?_) (fun h90 => ?_)
                  · refine p_aload_n (z_dec zd_X8_behind 48 rfl) rfl 3 rfl (n := 97) rfl ?_
                    refine q_getR (z_dec zd_X8_behind 49 rfl) zf_X8_33 (i := 18) rfl rfl (n := 100) rfl ?_
                    refine p_aload_n (z_dec zd_X8_behind 50 rfl) rfl 3 rfl (n := 101) rfl ?_
                    refine q_getR (z_dec zd_X8_behind 51 rfl) zf_X8_10 (i := 1) rfl rfl (n := 104) rfl ?_
                    refine q_callV (As := [.ref 1]) (rest := []) (z_dec zd_X8_behind 52 rfl) zk_X8_146 zv_X3_begin (c_X3_begin (d - 1) (by omega) b I L np hnp hn10) rfl ⟨_, _, rfl⟩ rfl rfl (Nat.le_of_ble_eq_true rfl) (by omega) (n := 107) rfl ?_
                    show PW zm_X8_behind d 107 [(7, .int (f_X8_bytesRefusal I sh)), (6, .int 1), (5, .int 1), (0, .ref 0), (1, .int sh), (2, .int n), (3, .int one), (4, .int what)] [] SH ((m_X3_begin I np), L, z_R b) 0 0 _
                    have hP107 : z_H np sz (42 + 2 * sh.toNatClampNeg) (I (42 + 2 * sh.toNatClampNeg) 2).toNatClampNeg ((m_X3_begin I np)) := z_H_bg (by omega) hsz (hsl _ hj_sh.2).1
                    refine p_aload_n (z_dec zd_X8_behind 53 rfl) rfl 3 rfl (n := 108) rfl ?_
                    refine q_getR (z_dec zd_X8_behind 54 rfl) zf_X8_33 (i := 18) rfl rfl (n := 111) rfl ?_
                    refine p_iload_n (z_dec zd_X8_behind 55 rfl) rfl 5 rfl (n := 112) rfl ?_
                    refine p_aload_n (z_dec zd_X8_behind 56 rfl) rfl 3 rfl (n := 113) rfl ?_
                    refine q_getR (z_dec zd_X8_behind 57 rfl) zf_X8_67 (i := 41) rfl rfl (n := 116) rfl ?_
                    refine p_iload_n (z_dec zd_X8_behind 58 rfl) rfl 4 rfl (n := 117) rfl ?_
                    refine q_aald (z_dec zd_X8_behind 59 rfl) rfl (by decide) (sh.toNatClampNeg) hj_sh.1 hj_sh.2 (a := (42 + 2 * sh.toNatClampNeg)) (if_pos hj_sh.2) (n := 118) rfl ?_
                    refine p_aload_n (z_dec zd_X8_behind 60 rfl) rfl 3 rfl (n := 119) rfl ?_
                    refine q_getR (z_dec zd_X8_behind 61 rfl) zf_X8_26 (i := 13) rfl rfl (n := 122) rfl ?_
                    refine p_iconst (z_dec zd_X8_behind 62 rfl) (v := 0) (by decide) (n := 123) rfl ?_
                    refine q_callV (As := [.int (nI n.toNatClampNeg), .ref (42 + 2 * sh.toNatClampNeg), .ref 13, .int 0]) (rest := []) (z_dec zd_X8_behind 63 rfl) zk_X8_160 zv_X3_goThrough (c_X3_goThrough (d - 1) (by omega) b (m_X3_begin I np) L (42 + 2 * sh.toNatClampNeg) (z_SfOf b _ hj_sh.2) (by omega) np hn10 sz hs121 (I (42 + 2 * sh.toNatClampNeg) 2).toNatClampNeg (hsl _ hj_sh.2).2 hP107 n.toNatClampNeg (by omega) 0) rfl ⟨_, _, rfl⟩ (by simp only [← hn20.1]; rfl) rfl (Nat.le_of_ble_eq_true rfl) (by omega) (n := 126) rfl ?_
                    show PW zm_X8_behind d 126 [(7, .int (f_X8_bytesRefusal I sh)), (6, .int 1), (5, .int 1), (0, .ref 0), (1, .int sh), (2, .int n), (3, .int one), (4, .int what)] [] SH ((m_X3_goThrough b (m_X3_begin I np) L (42 + 2 * sh.toNatClampNeg) np sz (I (42 + 2 * sh.toNatClampNeg) 2).toNatClampNeg n.toNatClampNeg 0), L, z_R b) 0 0 _
                    have hP126 : z_H np sz (42 + 2 * sh.toNatClampNeg) (I (42 + 2 * sh.toNatClampNeg) 2).toNatClampNeg ((m_X3_goThrough b (m_X3_begin I np) L (42 + 2 * sh.toNatClampNeg) np sz (I (42 + 2 * sh.toNatClampNeg) 2).toNatClampNeg n.toNatClampNeg 0)) := z_H_gt (by omega) b L _ _ hP107
                    refine p_iload (z_dec zd_X8_behind 64 rfl) 7 rfl (n := 128) rfl ?_
                    by_cases hs128_0 : what = 0
                    · refine p_tableIn (z_dec zd_X8_behind 65 rfl) (off := 28) (t := 156) (by rw [hs128_0]; decide) (by rw [hs128_0]; decide) (by rw [hs128_0]; rfl) (by decide) ?_
                      refine p_aload_n (z_dec zd_X8_behind 66 rfl) rfl 3 rfl (n := 157) rfl ?_
                      refine q_getR (z_dec zd_X8_behind 67 rfl) zf_X8_33 (i := 18) rfl rfl (n := 160) rfl ?_
                      refine q_getR (z_dec zd_X8_behind 68 rfl) zf_X8_164 (i := 19) rfl rfl (n := 163) rfl ?_
                      refine q_getR (z_dec zd_X8_behind 69 rfl) zf_X8_165 (i := 22) rfl rfl (n := 166) rfl ?_
                      refine p_iload_n (z_dec zd_X8_behind 70 rfl) rfl 6 rfl (n := 167) rfl ?_
                      refine q_iald (z_dec zd_X8_behind 71 rfl) rfl (by decide) (one.toNatClampNeg) hj.1 (Nat.lt_of_lt_of_le hj.2 hn10) (v := ((m_X3_goThrough b (m_X3_begin I np) L (42 + 2 * sh.toNatClampNeg) np sz (I (42 + 2 * sh.toNatClampNeg) 2).toNatClampNeg n.toNatClampNeg 0) 22 one.toNatClampNeg)) rfl (n := 168) rfl ?_
                      exact p_iret (z_dec zd_X8_behind 72 rfl) rfl ⟨(by unfold f_X8_behind; rw [if_pos h2, if_pos h21, if_neg h41, if_neg h45, if_neg h51, if_neg h67, if_pos h90, if_pos hs128_0]), rfl, (z_3 (by unfold m_X8_behind; rw [if_pos h2, if_pos h21, if_neg h41, if_neg h45, if_neg h51, if_neg h67, if_pos h90, if_pos hs128_0]) rfl)⟩
                    by_cases hs128_1 : what = 1
                    · refine p_tableIn (z_dec zd_X8_behind 65 rfl) (off := 41) (t := 169) (by rw [hs128_1]; decide) (by rw [hs128_1]; decide) (by rw [hs128_1]; rfl) (by decide) ?_
                      refine p_aload_n (z_dec zd_X8_behind 73 rfl) rfl 3 rfl (n := 170) rfl ?_
                      refine q_getR (z_dec zd_X8_behind 74 rfl) zf_X8_33 (i := 18) rfl rfl (n := 173) rfl ?_
                      refine q_getR (z_dec zd_X8_behind 75 rfl) zf_X8_164 (i := 19) rfl rfl (n := 176) rfl ?_
                      refine q_getR (z_dec zd_X8_behind 76 rfl) zf_X8_169 (i := 21) rfl rfl (n := 179) rfl ?_
                      refine p_iload_n (z_dec zd_X8_behind 77 rfl) rfl 6 rfl (n := 180) rfl ?_
                      refine q_iald (z_dec zd_X8_behind 78 rfl) rfl (by decide) (one.toNatClampNeg) hj.1 (Nat.lt_of_lt_of_le hj.2 hn10) (v := ((m_X3_goThrough b (m_X3_begin I np) L (42 + 2 * sh.toNatClampNeg) np sz (I (42 + 2 * sh.toNatClampNeg) 2).toNatClampNeg n.toNatClampNeg 0) 21 one.toNatClampNeg)) rfl (n := 181) rfl ?_
                      exact p_iret (z_dec zd_X8_behind 79 rfl) rfl ⟨(by unfold f_X8_behind; rw [if_pos h2, if_pos h21, if_neg h41, if_neg h45, if_neg h51, if_neg h67, if_pos h90, if_neg hs128_0, if_pos hs128_1]), rfl, (z_3 (by unfold m_X8_behind; rw [if_pos h2, if_pos h21, if_neg h41, if_neg h45, if_neg h51, if_neg h67, if_pos h90, if_neg hs128_0, if_pos hs128_1]) rfl)⟩
                    by_cases hs128_2 : what = 2
                    · refine p_tableIn (z_dec zd_X8_behind 65 rfl) (off := 54) (t := 182) (by rw [hs128_2]; decide) (by rw [hs128_2]; decide) (by rw [hs128_2]; rfl) (by decide) ?_
                      refine p_aload_n (z_dec zd_X8_behind 80 rfl) rfl 3 rfl (n := 183) rfl ?_
                      refine q_getR (z_dec zd_X8_behind 81 rfl) zf_X8_33 (i := 18) rfl rfl (n := 186) rfl ?_
                      refine q_getR (z_dec zd_X8_behind 82 rfl) zf_X8_164 (i := 19) rfl rfl (n := 189) rfl ?_
                      refine q_callV (As := []) (rest := []) (z_dec zd_X8_behind 83 rfl) zk_X8_130 zv_X7_judgeBits (c_X7_judgeBits (d - 1) (by omega) b (m_X3_goThrough b (m_X3_begin I np) L (42 + 2 * sh.toNatClampNeg) np sz (I (42 + 2 * sh.toNatClampNeg) 2).toNatClampNeg n.toNatClampNeg 0) L 19 (z_Yd19 b) np hP126.1 hn10) rfl ⟨_, _, rfl⟩ rfl rfl (Nat.le_of_ble_eq_true rfl) (by omega) (n := 192) rfl ?_
                      show PW zm_X8_behind d 192 [(7, .int (f_X8_bytesRefusal I sh)), (6, .int 1), (5, .int 1), (0, .ref 0), (1, .int sh), (2, .int n), (3, .int one), (4, .int what)] [.int (f_X7_judgeBits (m_X3_goThrough b (m_X3_begin I np) L (42 + 2 * sh.toNatClampNeg) np sz (I (42 + 2 * sh.toNatClampNeg) 2).toNatClampNeg n.toNatClampNeg 0) 19 np)] SH ((m_X3_goThrough b (m_X3_begin I np) L (42 + 2 * sh.toNatClampNeg) np sz (I (42 + 2 * sh.toNatClampNeg) 2).toNatClampNeg n.toNatClampNeg 0), L, z_R b) 0 0 _
                      exact p_iret (z_dec zd_X8_behind 84 rfl) rfl ⟨(by unfold f_X8_behind; rw [if_pos h2, if_pos h21, if_neg h41, if_neg h45, if_neg h51, if_neg h67, if_pos h90, if_neg hs128_0, if_neg hs128_1, if_pos hs128_2]), rfl, (z_3 (by unfold m_X8_behind; rw [if_pos h2, if_pos h21, if_neg h41, if_neg h45, if_neg h51, if_neg h67, if_pos h90, if_neg hs128_0, if_neg hs128_1, if_pos hs128_2]) rfl)⟩
                    have hs128_0n : ¬ what.toInt = 0 := lv_neT hs128_0 rfl
                    have hs128_1n : ¬ what.toInt = 1 := lv_neT hs128_1 rfl
                    have hs128_2n : ¬ what.toInt = 2 := lv_neT hs128_2 rfl
                    refine p_tableOut (z_dec zd_X8_behind 65 rfl) (t := 193) (by omega) (by decide) ?_
                    refine p_aload_n (z_dec zd_X8_behind 85 rfl) rfl 3 rfl (n := 194) rfl ?_
                    refine q_getR (z_dec zd_X8_behind 86 rfl) zf_X8_33 (i := 18) rfl rfl (n := 197) rfl ?_
                    refine q_getI (z_dec zd_X8_behind 87 rfl) zf_X8_154 (by decide) rfl (v := ((m_X3_goThrough b (m_X3_begin I np) L (42 + 2 * sh.toNatClampNeg) np sz (I (42 + 2 * sh.toNatClampNeg) 2).toNatClampNeg n.toNatClampNeg 0) 18 2)) rfl (n := 200) rfl ?_
                    exact p_iret (z_dec zd_X8_behind 88 rfl) rfl ⟨(by unfold f_X8_behind; rw [if_pos h2, if_pos h21, if_neg h41, if_neg h45, if_neg h51, if_neg h67, if_pos h90, if_neg hs128_0, if_neg hs128_1, if_neg hs128_2]), rfl, (z_3 (by unfold m_X8_behind; rw [if_pos h2, if_pos h21, if_neg h41, if_neg h45, if_neg h51, if_neg h67, if_pos h90, if_neg hs128_0, if_neg hs128_1, if_neg hs128_2]) rfl)⟩
                  · refine p_iload (z_dec zd_X8_behind 46 rfl) 0 rfl (n := 95) rfl ?_
                    exact p_iret (z_dec zd_X8_behind 47 rfl) rfl ⟨(by unfold f_X8_behind; rw [if_pos h2, if_pos h21, if_neg h41, if_neg h45, if_neg h51, if_neg h67, if_neg h90]), rfl, (z_3 (by unfold m_X8_behind; rw [if_pos h2, if_pos h21, if_neg h41, if_neg h45, if_neg h51, if_neg h67, if_neg h90]) rfl)⟩
                · refine p_iload (z_dec zd_X8_behind 34 rfl) 0 rfl (n := 72) rfl ?_
                  refine p_if_eq (z_dec zd_X8_behind 35 rfl) (t := 79) (by decide) (n := 75) rfl (fun h72 => ?_) (fun h72 => ?_)
                  · exact absurd h72 (by decide)
                  · refine p_iload_n (z_dec zd_X8_behind 36 rfl) rfl 5 rfl (n := 76) rfl ?_
                    refine p_if_eq (z_dec zd_X8_behind 37 rfl) (t := 81) (by decide) (n := 79) rfl (fun h76 => ?_) (fun h76 => ?_)
                    · refine p_aload_n (z_dec zd_X8_behind 40 rfl) rfl 2 rfl (n := 82) rfl ?_
                      refine p_iload_n (z_dec zd_X8_behind 41 rfl) rfl 3 rfl (n := 83) rfl ?_
                      refine q_callV (As := [.int sh]) (rest := []) (z_dec zd_X8_behind 42 rfl) zk_X8_142 zv_X8_bytesRefusal (c_X8_bytesRefusal (d - 1) (by omega) b I L sh) rfl ⟨_, _, rfl⟩ rfl rfl (Nat.le_of_ble_eq_true rfl) (by omega) (n := 86) rfl ?_
                      show PW zm_X8_behind d 86 [(6, .int 1), (5, .int 1), (0, .ref 0), (1, .int sh), (2, .int n), (3, .int one), (4, .int what)] [.int (f_X8_bytesRefusal I sh)] SH (I, L, z_R b) 0 0 _
                      refine p_istore (z_dec zd_X8_behind 43 rfl) (lv2 := [(7, .int (f_X8_bytesRefusal I sh)), (6, .int 1), (5, .int 1), (0, .ref 0), (1, .int sh), (2, .int n), (3, .int one), (4, .int what)]) (by decide) rfl (n := 88) rfl ?_
                      refine p_iload (z_dec zd_X8_behind 44 rfl) 0 rfl (n := 90) rfl ?_
                      refine p_if_eq (z_dec zd_X8_behind 45 rfl) (t := 96) (by decide) (n := 93) rfl (fun h90 => ?_) (fun h90 => ?_)
                      · refine p_aload_n (z_dec zd_X8_behind 48 rfl) rfl 3 rfl (n := 97) rfl ?_
                        refine q_getR (z_dec zd_X8_behind 49 rfl) zf_X8_33 (i := 18) rfl rfl (n := 100) rfl ?_
                        refine p_aload_n (z_dec zd_X8_behind 50 rfl) rfl 3 rfl (n := 101) rfl ?_
                        refine q_getR (z_dec zd_X8_behind 51 rfl) zf_X8_10 (i := 1) rfl rfl (n := 104) rfl ?_
                        refine q_callV (As := [.ref 1]) (rest := []) (z_dec zd_X8_behind 52 rfl) zk_X8_146 zv_X3_begin (c_X3_begin (d - 1) (by omega) b I L np hnp hn10) rfl ⟨_, _, rfl⟩ rfl rfl (Nat.le_of_ble_eq_true rfl) (by omega) (n := 107) rfl ?_
                        show PW zm_X8_behind d 107 [(7, .int (f_X8_bytesRefusal I sh)), (6, .int 1), (5, .int 1), (0, .ref 0), (1, .int sh), (2, .int n), (3, .int one), (4, .int what)] [] SH ((m_X3_begin I np), L, z_R b) 0 0 _
                        have hP107 : z_H np sz (42 + 2 * sh.toNatClampNeg) (I (42 + 2 * sh.toNatClampNeg) 2).toNatClampNeg ((m_X3_begin I np)) := z_H_bg (by omega) hsz (hsl _ hj_sh.2).1
                        refine p_aload_n (z_dec zd_X8_behind 53 rfl) rfl 3 rfl (n := 108) rfl ?_
                        refine q_getR (z_dec zd_X8_behind 54 rfl) zf_X8_33 (i := 18) rfl rfl (n := 111) rfl ?_
                        refine p_iload_n (z_dec zd_X8_behind 55 rfl) rfl 5 rfl (n := 112) rfl ?_
                        refine p_aload_n (z_dec zd_X8_behind 56 rfl) rfl 3 rfl (n := 113) rfl ?_
                        refine q_getR (z_dec zd_X8_behind 57 rfl) zf_X8_67 (i := 41) rfl rfl (n := 116) rfl ?_
                        refine p_iload_n (z_dec zd_X8_behind 58 rfl) rfl 4 rfl (n := 117) rfl ?_
                        refine q_aald (z_dec zd_X8_behind 59 rfl) rfl (by decide) (sh.toNatClampNeg) hj_sh.1 hj_sh.2 (a := (42 + 2 * sh.toNatClampNeg)) (if_pos hj_sh.2) (n := 118) rfl ?_
                        refine p_aload_n (z_dec zd_X8_behind 60 rfl) rfl 3 rfl (n := 119) rfl ?_
                        refine q_getR (z_dec zd_X8_behind 61 rfl) zf_X8_26 (i := 13) rfl rfl (n := 122) rfl ?_
                        refine p_iconst (z_dec zd_X8_behind 62 rfl) (v := 0) (by decide) (n := 123) rfl ?_
                        refine q_callV (As := [.int (nI n.toNatClampNeg), .ref (42 + 2 * sh.toNatClampNeg), .ref 13, .int 0]) (rest := []) (z_dec zd_X8_behind 63 rfl) zk_X8_160 zv_X3_goThrough (c_X3_goThrough (d - 1) (by omega) b (m_X3_begin I np) L (42 + 2 * sh.toNatClampNeg) (z_SfOf b _ hj_sh.2) (by omega) np hn10 sz hs121 (I (42 + 2 * sh.toNatClampNeg) 2).toNatClampNeg (hsl _ hj_sh.2).2 hP107 n.toNatClampNeg (by omega) 0) rfl ⟨_, _, rfl⟩ (by simp only [← hn20.1]; rfl) rfl (Nat.le_of_ble_eq_true rfl) (by omega) (n := 126) rfl ?_
                        show PW zm_X8_behind d 126 [(7, .int (f_X8_bytesRefusal I sh)), (6, .int 1), (5, .int 1), (0, .ref 0), (1, .int sh), (2, .int n), (3, .int one), (4, .int what)] [] SH ((m_X3_goThrough b (m_X3_begin I np) L (42 + 2 * sh.toNatClampNeg) np sz (I (42 + 2 * sh.toNatClampNeg) 2).toNatClampNeg n.toNatClampNeg 0), L, z_R b) 0 0 _
                        have hP126 : z_H np sz (42 + 2 * sh.toNatClampNeg) (I (42 + 2 * sh.toNatClampNeg) 2).toNatClampNeg ((m_X3_goThrough b (m_X3_begin I np) L (42 + 2 * sh.toNatClampNeg) np sz (I (42 + 2 * sh.toNatClampNeg) 2).toNatClampNeg n.toNatClampNeg 0)) := z_H_gt (by omega) b L _ _ hP107
                        refine p_iload (z_dec zd_X8_behind 64 rfl) 7 rfl (n := 128) rfl ?_
                        by_cases hs128_0 : what = 0
                        · refine p_tableIn (z_dec zd_X8_behind 65 rfl) (off := 28) (t := 156) (by rw [hs128_0]; decide) (by rw [hs128_0]; decide) (by rw [hs128_0]; rfl) (by decide) ?_
                          refine p_aload_n (z_dec zd_X8_behind 66 rfl) rfl 3 rfl (n := 157) rfl ?_
                          refine q_getR (z_dec zd_X8_behind 67 rfl) zf_X8_33 (i := 18) rfl rfl (n := 160) rfl ?_
                          refine q_getR (z_dec zd_X8_behind 68 rfl) zf_X8_164 (i := 19) rfl rfl (n := 163) rfl ?_
                          refine q_getR (z_dec zd_X8_behind 69 rfl) zf_X8_165 (i := 22) rfl rfl (n := 166) rfl ?_
                          refine p_iload_n (z_dec zd_X8_behind 70 rfl) rfl 6 rfl (n := 167) rfl ?_
                          refine q_iald (z_dec zd_X8_behind 71 rfl) rfl (by decide) (0) h76 (by decide) (v := ((m_X3_goThrough b (m_X3_begin I np) L (42 + 2 * sh.toNatClampNeg) np sz (I (42 + 2 * sh.toNatClampNeg) 2).toNatClampNeg n.toNatClampNeg 0) 22 0)) rfl (n := 168) rfl ?_
                          exact p_iret (z_dec zd_X8_behind 72 rfl) rfl ⟨(by unfold f_X8_behind; rw [if_pos h2, if_pos h21, if_neg h41, if_neg h45, if_neg h51, if_pos h67, if_pos h76, if_pos h90, if_pos hs128_0]), rfl, (z_3 (by unfold m_X8_behind; rw [if_pos h2, if_pos h21, if_neg h41, if_neg h45, if_neg h51, if_pos h67, if_pos h76, if_pos h90, if_pos hs128_0]) rfl)⟩
                        by_cases hs128_1 : what = 1
                        · refine p_tableIn (z_dec zd_X8_behind 65 rfl) (off := 41) (t := 169) (by rw [hs128_1]; decide) (by rw [hs128_1]; decide) (by rw [hs128_1]; rfl) (by decide) ?_
                          refine p_aload_n (z_dec zd_X8_behind 73 rfl) rfl 3 rfl (n := 170) rfl ?_
                          refine q_getR (z_dec zd_X8_behind 74 rfl) zf_X8_33 (i := 18) rfl rfl (n := 173) rfl ?_
                          refine q_getR (z_dec zd_X8_behind 75 rfl) zf_X8_164 (i := 19) rfl rfl (n := 176) rfl ?_
                          refine q_getR (z_dec zd_X8_behind 76 rfl) zf_X8_169 (i := 21) rfl rfl (n := 179) rfl ?_
                          refine p_iload_n (z_dec zd_X8_behind 77 rfl) rfl 6 rfl (n := 180) rfl ?_
                          refine q_iald (z_dec zd_X8_behind 78 rfl) rfl (by decide) (0) h76 (by decide) (v := ((m_X3_goThrough b (m_X3_begin I np) L (42 + 2 * sh.toNatClampNeg) np sz (I (42 + 2 * sh.toNatClampNeg) 2).toNatClampNeg n.toNatClampNeg 0) 21 0)) rfl (n := 181) rfl ?_
                          exact p_iret (z_dec zd_X8_behind 79 rfl) rfl ⟨(by unfold f_X8_behind; rw [if_pos h2, if_pos h21, if_neg h41, if_neg h45, if_neg h51, if_pos h67, if_pos h76, if_pos h90, if_neg hs128_0, if_pos hs128_1]), rfl, (z_3 (by unfold m_X8_behind; rw [if_pos h2, if_pos h21, if_neg h41, if_neg h45, if_neg h51, if_pos h67, if_pos h76, if_pos h90, if_neg hs128_0, if_pos hs128_1]) rfl)⟩
                        by_cases hs128_2 : what = 2
                        · refine p_tableIn (z_dec zd_X8_behind 65 rfl) (off := 54) (t := 182) (by rw [hs128_2]; decide) (by rw [hs128_2]; decide) (by rw [hs128_2]; rfl) (by decide) ?_
                          refine p_aload_n (z_dec zd_X8_behind 80 rfl) rfl 3 rfl (n := 183) rfl ?_
                          refine q_getR (z_dec zd_X8_behind 81 rfl) zf_X8_33 (i := 18) rfl rfl (n := 186) rfl ?_
                          refine q_getR (z_dec zd_X8_behind 82 rfl) zf_X8_164 (i := 19) rfl rfl (n := 189) rfl ?_
                          refine q_callV (As := []) (rest := []) (z_dec zd_X8_behind 83 rfl) zk_X8_130 zv_X7_judgeBits (c_X7_judgeBits (d - 1) (by omega) b (m_X3_goThrough b (m_X3_begin I np) L (42 + 2 * sh.toNatClampNeg) np sz (I (42 + 2 * sh.toNatClampNeg) 2).toNatClampNeg n.toNatClampNeg 0) L 19 (z_Yd19 b) np hP126.1 hn10) rfl ⟨_, _, rfl⟩ rfl rfl (Nat.le_of_ble_eq_true rfl) (by omega) (n := 192) rfl ?_
                          show PW zm_X8_behind d 192 [(7, .int (f_X8_bytesRefusal I sh)), (6, .int 1), (5, .int 1), (0, .ref 0), (1, .int sh), (2, .int n), (3, .int one), (4, .int what)] [.int (f_X7_judgeBits (m_X3_goThrough b (m_X3_begin I np) L (42 + 2 * sh.toNatClampNeg) np sz (I (42 + 2 * sh.toNatClampNeg) 2).toNatClampNeg n.toNatClampNeg 0) 19 np)] SH ((m_X3_goThrough b (m_X3_begin I np) L (42 + 2 * sh.toNatClampNeg) np sz (I (42 + 2 * sh.toNatClampNeg) 2).toNatClampNeg n.toNatClampNeg 0), L, z_R b) 0 0 _
                          exact p_iret (z_dec zd_X8_behind 84 rfl) rfl ⟨(by unfold f_X8_behind; rw [if_pos h2, if_pos h21, if_neg h41, if_neg h45, if_neg h51, if_pos h67, if_pos h76, if_pos h90, if_neg hs128_0, if_neg hs128_1, if_pos hs128_2]), rfl, (z_3 (by unfold m_X8_behind; rw [if_pos h2, if_pos h21, if_neg h41, if_neg h45, if_neg h51, if_pos h67, if_pos h76, if_pos h90, if_neg hs128_0, if_neg hs128_1, if_pos hs128_2]) rfl)⟩
                        have hs128_0n : ¬ what.toInt = 0 := lv_neT hs128_0 rfl
                        have hs128_1n : ¬ what.toInt = 1 := lv_neT hs128_1 rfl
                        have hs128_2n : ¬ what.toInt = 2 := lv_neT hs128_2 rfl
                        refine p_tableOut (z_dec zd_X8_behind 65 rfl) (t := 193) (by omega) (by decide) ?_
                        refine p_aload_n (z_dec zd_X8_behind 85 rfl) rfl 3 rfl (n := 194) rfl ?_
                        refine q_getR (z_dec zd_X8_behind 86 rfl) zf_X8_33 (i := 18) rfl rfl (n := 197) rfl ?_
                        refine q_getI (z_dec zd_X8_behind 87 rfl) zf_X8_154 (by decide) rfl (v := ((m_X3_goThrough b (m_X3_begin I np) L (42 + 2 * sh.toNatClampNeg) np sz (I (42 + 2 * sh.toNatClampNeg) 2).toNatClampNeg n.toNatClampNeg 0) 18 2)) rfl (n := 200) rfl ?_
                        exact p_iret (z_dec zd_X8_behind 88 rfl) rfl ⟨(by unfold f_X8_behind; rw [if_pos h2, if_pos h21, if_neg h41, if_neg h45, if_neg h51, if_pos h67, if_pos h76, if_pos h90, if_neg hs128_0, if_neg hs128_1, if_neg hs128_2]), rfl, (z_3 (by unfold m_X8_behind; rw [if_pos h2, if_pos h21, if_neg h41, if_neg h45, if_neg h51, if_pos h67, if_pos h76, if_pos h90, if_neg hs128_0, if_neg hs128_1, if_neg hs128_2]) rfl)⟩
                      · refine p_iload (z_dec zd_X8_behind 46 rfl) 0 rfl (n := 95) rfl ?_
                        exact p_iret (z_dec zd_X8_behind 47 rfl) rfl ⟨(by unfold f_X8_behind; rw [if_pos h2, if_pos h21, if_neg h41, if_neg h45, if_neg h51, if_pos h67, if_pos h76, if_neg h90]), rfl, (z_3 (by unfold m_X8_behind; rw [if_pos h2, if_pos h21, if_neg h41, if_neg h45, if_neg h51, if_pos h67, if_pos h76, if_neg h90]) rfl)⟩
                    · refine p_iconst (z_dec zd_X8_behind 38 rfl) (v := (-1)) (by decide) (n := 80) rfl ?_
                      exact p_iret (z_dec zd_X8_behind 39 rfl) rfl ⟨(by unfold f_X8_behind; rw [if_pos h2, if_pos h21, if_neg h41, if_neg h45, if_neg h51, if_pos h67, if_neg h76]), rfl, (z_3 (by unfold m_X8_behind; rw [if_pos h2, if_pos h21, if_neg h41, if_neg h45, if_neg h51, if_pos h67, if_neg h76]) rfl)⟩
      · refine p_iload (z_dec zd_X8_behind 12 rfl) 5 rfl (n := 26) rfl ?_
        refine p_iconst (z_dec zd_X8_behind 13 rfl) (v := 3) (by decide) (n := 27) rfl ?_
        refine p_icmp_ne (z_dec zd_X8_behind 14 rfl) (t := 34) (by decide) (n := 30) rfl (fun h27 => ?_) (fun h27 => ?_)
        · refine p_iconst (z_dec zd_X8_behind 17 rfl) (v := 0) (by decide) (n := 35) rfl ?_
          refine p_istore (z_dec zd_X8_behind 18 rfl) (lv2 := [(6, .int 0), (5, .int 1), (0, .ref 0), (1, .int sh), (2, .int n), (3, .int one), (4, .int what)]) (by decide) rfl (n := 37) rfl ?_
          refine p_iload_n (z_dec zd_X8_behind 19 rfl) rfl 3 rfl (n := 38) rfl ?_
          refine q_callS (As := [.int sh]) (rest := []) (z_dec zd_X8_behind 20 rfl) zk_X8_80 zs_X8_isShelf (c_X8_isShelf (d - 1) (by omega) b I L sh) rfl rfl (Nat.le_of_ble_eq_true rfl) (by omega) (n := 41) rfl ?_
          show PW zm_X8_behind d 41 [(6, .int 0), (5, .int 1), (0, .ref 0), (1, .int sh), (2, .int n), (3, .int one), (4, .int what)] [.int (f_X8_isShelf sh)] SH (I, L, z_R b) 0 0 _
          refine p_if_eq (z_dec zd_X8_behind 21 rfl) (t := 79) (by decide) (n := 44) rfl (fun h41 => ?_) (fun h41 => ?_)
          · refine p_iconst (z_dec zd_X8_behind 38 rfl) (v := (-1)) (by decide) (n := 80) rfl ?_
            exact p_iret (z_dec zd_X8_behind 39 rfl) rfl ⟨(by unfold f_X8_behind; rw [if_pos h2, if_neg h21, if_neg h27, if_pos h41]), rfl, (z_3 (by unfold m_X8_behind; rw [if_pos h2, if_neg h21, if_neg h27, if_pos h41]) rfl)⟩
          · have hj_sh := z_shc h41
            refine p_iload_n (z_dec zd_X8_behind 22 rfl) rfl 4 rfl (n := 45) rfl ?_
            refine p_if_lt (z_dec zd_X8_behind 23 rfl) (t := 79) (by decide) (n := 48) rfl (fun h45 => ?_) (fun h45 => ?_)
            · refine p_iconst (z_dec zd_X8_behind 38 rfl) (v := (-1)) (by decide) (n := 80) rfl ?_
              exact p_iret (z_dec zd_X8_behind 39 rfl) rfl ⟨(by unfold f_X8_behind; rw [if_pos h2, if_neg h21, if_neg h27, if_neg h41, if_pos h45]), rfl, (z_3 (by unfold m_X8_behind; rw [if_pos h2, if_neg h21, if_neg h27, if_neg h41, if_pos h45]) rfl)⟩
            · refine p_iload_n (z_dec zd_X8_behind 24 rfl) rfl 4 rfl (n := 49) rfl ?_
              refine p_bipush (z_dec zd_X8_behind 25 rfl) (v := 20) (by decide) (n := 51) rfl ?_
              refine p_icmp_gt (z_dec zd_X8_behind 26 rfl) (t := 79) (by decide) (n := 54) rfl (fun h51 => ?_) (fun h51 => ?_)
              · refine p_iconst (z_dec zd_X8_behind 38 rfl) (v := (-1)) (by decide) (n := 80) rfl ?_
                exact p_iret (z_dec zd_X8_behind 39 rfl) rfl ⟨(by unfold f_X8_behind; rw [if_pos h2, if_neg h21, if_neg h27, if_neg h41, if_neg h45, if_pos h51]), rfl, (z_3 (by unfold m_X8_behind; rw [if_pos h2, if_neg h21, if_neg h27, if_neg h41, if_neg h45, if_pos h51]) rfl)⟩
              · have hn20 := z_in20 h45 h51
                refine p_iload (z_dec zd_X8_behind 27 rfl) 1 rfl (n := 56) rfl ?_
                refine p_if_eq (z_dec zd_X8_behind 28 rfl) (t := 70) (by decide) (n := 59) rfl (fun h56 => ?_) (fun h56 => ?_)
                · exact absurd h56 (by decide)
                · refine p_aload_n (z_dec zd_X8_behind 29 rfl) rfl 2 rfl (n := 60) rfl ?_
                  refine q_getR (z_dec zd_X8_behind 30 rfl) zf_X8_10 (i := 1) rfl rfl (n := 63) rfl ?_
                  refine p_iload_n (z_dec zd_X8_behind 31 rfl) rfl 5 rfl (n := 64) rfl ?_
                  refine q_callV (As := [.int one]) (rest := []) (z_dec zd_X8_behind 32 rfl) zk_X8_133 zv_X7_has (c_X7_has (d - 1) (by omega) b I L 1 (z_Yd1 b) one) rfl ⟨_, _, rfl⟩ rfl rfl (Nat.le_of_ble_eq_true rfl) (by omega) (n := 67) rfl ?_
                  show PW zm_X8_behind d 67 [(6, .int 0), (5, .int 1), (0, .ref 0), (1, .int sh), (2, .int n), (3, .int one), (4, .int what)] [.int (f_X7_has I 1 one)] SH (I, L, z_R b) 0 0 _
                  refine p_if_ne (z_dec zd_X8_behind 33 rfl) (t := 81) (by decide) (n := 70) rfl (fun h67 => ?_) (fun h67 => ?_)
                  · have hj := z_has hnp hn10 h67
                    refine p_aload_n (z_dec zd_X8_behind 40 rfl) rfl 2 rfl (n := 82) rfl ?_
                    refine p_iload_n (z_dec zd_X8_behind 41 rfl) rfl 3 rfl (n := 83) rfl ?_
                    refine q_callV (As := [.int sh]) (rest := []) (z_dec zd_X8_behind 42 rfl) zk_X8_142 zv_X8_bytesRefusal (c_X8_bytesRefusal (d - 1) (by omega) b I L sh) rfl ⟨_, _, rfl⟩ rfl rfl (Nat.le_of_ble_eq_true rfl) (by omega) (n := 86) rfl ?_
                    show PW zm_X8_behind d 86 [(6, .int 0), (5, .int 1), (0, .ref 0), (1, .int sh), (2, .int n), (3, .int one), (4, .int what)] [.int (f_X8_bytesRefusal I sh)] SH (I, L, z_R b) 0 0 _
                    refine p_istore (z_dec zd_X8_behind 43 rfl) (lv2 := [(7, .int (f_X8_bytesRefusal I sh)), (6, .int 0), (5, .int 1), (0, .ref 0), (1, .int sh), (2, .int n), (3, .int one), (4, .int what)]) (by decide) rfl (n := 88) rfl ?_
                    refine p_iload (z_dec zd_X8_behind 44 rfl) 0 rfl (n := 90) rfl ?_
                    refine p_if_eq (z_dec zd_X8_behind 45 rfl) (t := 96) (by decide) (n := 93) rfl (fun h90 => ?_) (fun h90 => ?_)
                    · refine p_aload_n (z_dec zd_X8_behind 48 rfl) rfl 3 rfl (n := 97) rfl ?_
                      refine q_getR (z_dec zd_X8_behind 49 rfl) zf_X8_33 (i := 18) rfl rfl (n := 100) rfl ?_
                      refine p_aload_n (z_dec zd_X8_behind 50 rfl) rfl 3 rfl (n := 101) rfl ?_
                      refine q_getR (z_dec zd_X8_behind 51 rfl) zf_X8_10 (i := 1) rfl rfl (n := 104) rfl ?_
                      refine q_callV (As := [.ref 1]) (rest := []) (z_dec zd_X8_behind 52 rfl) zk_X8_146 zv_X3_begin (c_X3_begin (d - 1) (by omega) b I L np hnp hn10) rfl ⟨_, _, rfl⟩ rfl rfl (Nat.le_of_ble_eq_true rfl) (by omega) (n := 107) rfl ?_
                      show PW zm_X8_behind d 107 [(7, .int (f_X8_bytesRefusal I sh)), (6, .int 0), (5, .int 1), (0, .ref 0), (1, .int sh), (2, .int n), (3, .int one), (4, .int what)] [] SH ((m_X3_begin I np), L, z_R b) 0 0 _
                      have hP107 : z_H np sz (42 + 2 * sh.toNatClampNeg) (I (42 + 2 * sh.toNatClampNeg) 2).toNatClampNeg ((m_X3_begin I np)) := z_H_bg (by omega) hsz (hsl _ hj_sh.2).1
                      refine p_aload_n (z_dec zd_X8_behind 53 rfl) rfl 3 rfl (n := 108) rfl ?_
                      refine q_getR (z_dec zd_X8_behind 54 rfl) zf_X8_33 (i := 18) rfl rfl (n := 111) rfl ?_
                      refine p_iload_n (z_dec zd_X8_behind 55 rfl) rfl 5 rfl (n := 112) rfl ?_
                      refine p_aload_n (z_dec zd_X8_behind 56 rfl) rfl 3 rfl (n := 113) rfl ?_
                      refine q_getR (z_dec zd_X8_behind 57 rfl) zf_X8_67 (i := 41) rfl rfl (n := 116) rfl ?_
                      refine p_iload_n (z_dec zd_X8_behind 58 rfl) rfl 4 rfl (n := 117) rfl ?_
                      refine q_aald (z_dec zd_X8_behind 59 rfl) rfl (by decide) (sh.toNatClampNeg) hj_sh.1 hj_sh.2 (a := (42 + 2 * sh.toNatClampNeg)) (if_pos hj_sh.2) (n := 118) rfl ?_
                      refine p_aload_n (z_dec zd_X8_behind 60 rfl) rfl 3 rfl (n := 119) rfl ?_
                      refine q_getR (z_dec zd_X8_behind 61 rfl) zf_X8_26 (i := 13) rfl rfl (n := 122) rfl ?_
                      refine p_iconst (z_dec zd_X8_behind 62 rfl) (v := 0) (by decide) (n := 123) rfl ?_
                      refine q_callV (As := [.int (nI n.toNatClampNeg), .ref (42 + 2 * sh.toNatClampNeg), .ref 13, .int 0]) (rest := []) (z_dec zd_X8_behind 63 rfl) zk_X8_160 zv_X3_goThrough (c_X3_goThrough (d - 1) (by omega) b (m_X3_begin I np) L (42 + 2 * sh.toNatClampNeg) (z_SfOf b _ hj_sh.2) (by omega) np hn10 sz hs121 (I (42 + 2 * sh.toNatClampNeg) 2).toNatClampNeg (hsl _ hj_sh.2).2 hP107 n.toNatClampNeg (by omega) 0) rfl ⟨_, _, rfl⟩ (by simp only [← hn20.1]; rfl) rfl (Nat.le_of_ble_eq_true rfl) (by omega) (n := 126) rfl ?_
                      show PW zm_X8_behind d 126 [(7, .int (f_X8_bytesRefusal I sh)), (6, .int 0), (5, .int 1), (0, .ref 0), (1, .int sh), (2, .int n), (3, .int one), (4, .int what)] [] SH ((m_X3_goThrough b (m_X3_begin I np) L (42 + 2 * sh.toNatClampNeg) np sz (I (42 + 2 * sh.toNatClampNeg) 2).toNatClampNeg n.toNatClampNeg 0), L, z_R b) 0 0 _
                      have hP126 : z_H np sz (42 + 2 * sh.toNatClampNeg) (I (42 + 2 * sh.toNatClampNeg) 2).toNatClampNeg ((m_X3_goThrough b (m_X3_begin I np) L (42 + 2 * sh.toNatClampNeg) np sz (I (42 + 2 * sh.toNatClampNeg) 2).toNatClampNeg n.toNatClampNeg 0)) := z_H_gt (by omega) b L _ _ hP107
                      refine p_iload (z_dec zd_X8_behind 64 rfl) 7 rfl (n := 128) rfl ?_
                      by_cases hs128_0 : what = 0
                      · refine p_tableIn (z_dec zd_X8_behind 65 rfl) (off := 28) (t := 156) (by rw [hs128_0]; decide) (by rw [hs128_0]; decide) (by rw [hs128_0]; rfl) (by decide) ?_
                        refine p_aload_n (z_dec zd_X8_behind 66 rfl) rfl 3 rfl (n := 157) rfl ?_
                        refine q_getR (z_dec zd_X8_behind 67 rfl) zf_X8_33 (i := 18) rfl rfl (n := 160) rfl ?_
                        refine q_getR (z_dec zd_X8_behind 68 rfl) zf_X8_164 (i := 19) rfl rfl (n := 163) rfl ?_
                        refine q_getR (z_dec zd_X8_behind 69 rfl) zf_X8_165 (i := 22) rfl rfl (n := 166) rfl ?_
                        refine p_iload_n (z_dec zd_X8_behind 70 rfl) rfl 6 rfl (n := 167) rfl ?_
                        refine q_iald (z_dec zd_X8_behind 71 rfl) rfl (by decide) (one.toNatClampNeg) hj.1 (Nat.lt_of_lt_of_le hj.2 hn10) (v := ((m_X3_goThrough b (m_X3_begin I np) L (42 + 2 * sh.toNatClampNeg) np sz (I (42 + 2 * sh.toNatClampNeg) 2).toNatClampNeg n.toNatClampNeg 0) 22 one.toNatClampNeg)) rfl (n := 168) rfl ?_
                        exact p_iret (z_dec zd_X8_behind 72 rfl) rfl ⟨(by unfold f_X8_behind; rw [if_pos h2, if_neg h21, if_neg h27, if_neg h41, if_neg h45, if_neg h51, if_neg h67, if_pos h90, if_pos hs128_0]), rfl, (z_3 (by unfold m_X8_behind; rw [if_pos h2, if_neg h21, if_neg h27, if_neg h41, if_neg h45, if_neg h51, if_neg h67, if_pos h90, if_pos hs128_0]) rfl)⟩
                      by_cases hs128_1 : what = 1
                      · refine p_tableIn (z_dec zd_X8_behind 65 rfl) (off := 41) (t := 169) (by rw [hs128_1]; decide) (by rw [hs128_1]; decide) (by rw [hs128_1]; rfl) (by decide) ?_
                        refine p_aload_n (z_dec zd_X8_behind 73 rfl) rfl 3 rfl (n := 170) rfl ?_
                        refine q_getR (z_dec zd_X8_behind 74 rfl) zf_X8_33 (i := 18) rfl rfl (n := 173) rfl ?_
                        refine q_getR (z_dec zd_X8_behind 75 rfl) zf_X8_164 (i := 19) rfl rfl (n := 176) rfl ?_
                        refine q_getR (z_dec zd_X8_behind 76 rfl) zf_X8_169 (i := 21) rfl rfl (n := 179) rfl ?_
                        refine p_iload_n (z_dec zd_X8_behind 77 rfl) rfl 6 rfl (n := 180) rfl ?_
                        refine q_iald (z_dec zd_X8_behind 78 rfl) rfl (by decide) (one.toNatClampNeg) hj.1 (Nat.lt_of_lt_of_le hj.2 hn10) (v := ((m_X3_goThrough b (m_X3_begin I np) L (42 + 2 * sh.toNatClampNeg) np sz (I (42 + 2 * sh.toNatClampNeg) 2).toNatClampNeg n.toNatClampNeg 0) 21 one.toNatClampNeg)) rfl (n := 181) rfl ?_
                        exact p_iret (z_dec zd_X8_behind 79 rfl) rfl ⟨(by unfold f_X8_behind; rw [if_pos h2, if_neg h21, if_neg h27, if_neg h41, if_neg h45, if_neg h51, if_neg h67, if_pos h90, if_neg hs128_0, if_pos hs128_1]), rfl, (z_3 (by unfold m_X8_behind; rw [if_pos h2, if_neg h21, if_neg h27, if_neg h41, if_neg h45, if_neg h51, if_neg h67, if_pos h90, if_neg hs128_0, if_pos hs128_1]) rfl)⟩
                      by_cases hs128_2 : what = 2
                      · refine p_tableIn (z_dec zd_X8_behind 65 rfl) (off := 54) (t := 182) (by rw [hs128_2]; decide) (by rw [hs128_2]; decide) (by rw [hs128_2]; rfl) (by decide) ?_
                        refine p_aload_n (z_dec zd_X8_behind 80 rfl) rfl 3 rfl (n := 183) rfl ?_
                        refine q_getR (z_dec zd_X8_behind 81 rfl) zf_X8_33 (i := 18) rfl rfl (n := 186) rfl ?_
                        refine q_getR (z_dec zd_X8_behind 82 rfl) zf_X8_164 (i := 19) rfl rfl (n := 189) rfl ?_
                        refine q_callV (As := []) (rest := []) (z_dec zd_X8_behind 83 rfl) zk_X8_130 zv_X7_judgeBits (c_X7_judgeBits (d - 1) (by omega) b (m_X3_goThrough b (m_X3_begin I np) L (42 + 2 * sh.toNatClampNeg) np sz (I (42 + 2 * sh.toNatClampNeg) 2).toNatClampNeg n.toNatClampNeg 0) L 19 (z_Yd19 b) np hP126.1 hn10) rfl ⟨_, _, rfl⟩ rfl rfl (Nat.le_of_ble_eq_true rfl) (by omega) (n := 192) rfl ?_
                        show PW zm_X8_behind d 192 [(7, .int (f_X8_bytesRefusal I sh)), (6, .int 0), (5, .int 1), (0, .ref 0), (1, .int sh), (2, .int n), (3, .int one), (4, .int what)] [.int (f_X7_judgeBits (m_X3_goThrough b (m_X3_begin I np) L (42 + 2 * sh.toNatClampNeg) np sz (I (42 + 2 * sh.toNatClampNeg) 2).toNatClampNeg n.toNatClampNeg 0) 19 np)] SH ((m_X3_goThrough b (m_X3_begin I np) L (42 + 2 * sh.toNatClampNeg) np sz (I (42 + 2 * sh.toNatClampNeg) 2).toNatClampNeg n.toNatClampNeg 0), L, z_R b) 0 0 _
                        exact p_iret (z_dec zd_X8_behind 84 rfl) rfl ⟨(by unfold f_X8_behind; rw [if_pos h2, if_neg h21, if_neg h27, if_neg h41, if_neg h45, if_neg h51, if_neg h67, if_pos h90, if_neg hs128_0, if_neg hs128_1, if_pos hs128_2]), rfl, (z_3 (by unfold m_X8_behind; rw [if_pos h2, if_neg h21, if_neg h27, if_neg h41, if_neg h45, if_neg h51, if_neg h67, if_pos h90, if_neg hs128_0, if_neg hs128_1, if_pos hs128_2]) rfl)⟩
                      have hs128_0n : ¬ what.toInt = 0 := lv_neT hs128_0 rfl
                      have hs128_1n : ¬ what.toInt = 1 := lv_neT hs128_1 rfl
                      have hs128_2n : ¬ what.toInt = 2 := lv_neT hs128_2 rfl
                      refine p_tableOut (z_dec zd_X8_behind 65 rfl) (t := 193) (by omega) (by decide) ?_
                      refine p_aload_n (z_dec zd_X8_behind 85 rfl) rfl 3 rfl (n := 194) rfl ?_
                      refine q_getR (z_dec zd_X8_behind 86 rfl) zf_X8_33 (i := 18) rfl rfl (n := 197) rfl ?_
                      refine q_getI (z_dec zd_X8_behind 87 rfl) zf_X8_154 (by decide) rfl (v := ((m_X3_goThrough b (m_X3_begin I np) L (42 + 2 * sh.toNatClampNeg) np sz (I (42 + 2 * sh.toNatClampNeg) 2).toNatClampNeg n.toNatClampNeg 0) 18 2)) rfl (n := 200) rfl ?_
                      exact p_iret (z_dec zd_X8_behind 88 rfl) rfl ⟨(by unfold f_X8_behind; rw [if_pos h2, if_neg h21, if_neg h27, if_neg h41, if_neg h45, if_neg h51, if_neg h67, if_pos h90, if_neg hs128_0, if_neg hs128_1, if_neg hs128_2]), rfl, (z_3 (by unfold m_X8_behind; rw [if_pos h2, if_neg h21, if_neg h27, if_neg h41, if_neg h45, if_neg h51, if_neg h67, if_pos h90, if_neg hs128_0, if_neg hs128_1, if_neg hs128_2]) rfl)⟩
                    · refine p_iload (z_dec zd_X8_behind 46 rfl) 0 rfl (n := 95) rfl ?_
                      exact p_iret (z_dec zd_X8_behind 47 rfl) rfl ⟨(by unfold f_X8_behind; rw [if_pos h2, if_neg h21, if_neg h27, if_neg h41, if_neg h45, if_neg h51, if_neg h67, if_neg h90]), rfl, (z_3 (by unfold m_X8_behind; rw [if_pos h2, if_neg h21, if_neg h27, if_neg h41, if_neg h45, if_neg h51, if_neg h67, if_neg h90]) rfl)⟩
                  · refine p_iload (z_dec zd_X8_behind 34 rfl) 0 rfl (n := 72) rfl ?_
                    refine p_if_eq (z_dec zd_X8_behind 35 rfl) (t := 79) (by decide) (n := 75) rfl (fun h72 => ?_) (fun h72 => ?_)
                    · refine p_iconst (z_dec zd_X8_behind 38 rfl) (v := (-1)) (by decide) (n := 80) rfl ?_
                      exact p_iret (z_dec zd_X8_behind 39 rfl) rfl ⟨(by unfold f_X8_behind; rw [if_pos h2, if_neg h21, if_neg h27, if_neg h41, if_neg h45, if_neg h51, if_pos h67]), rfl, (z_3 (by unfold m_X8_behind; rw [if_pos h2, if_neg h21, if_neg h27, if_neg h41, if_neg h45, if_neg h51, if_pos h67]) rfl)⟩
                    · exact absurd h72 (by decide)
        · refine p_iconst (z_dec zd_X8_behind 15 rfl) (v := 1) (by decide) (n := 31) rfl ?_
          refine p_goto (z_dec zd_X8_behind 16 rfl) (t := 35) (by decide) ?_
          refine p_istore (z_dec zd_X8_behind 18 rfl) (lv2 := [(6, .int 1), (5, .int 1), (0, .ref 0), (1, .int sh), (2, .int n), (3, .int one), (4, .int what)]) (by decide) rfl (n := 37) rfl ?_
          refine p_iload_n (z_dec zd_X8_behind 19 rfl) rfl 3 rfl (n := 38) rfl ?_
          refine q_callS (As := [.int sh]) (rest := []) (z_dec zd_X8_behind 20 rfl) zk_X8_80 zs_X8_isShelf (c_X8_isShelf (d - 1) (by omega) b I L sh) rfl rfl (Nat.le_of_ble_eq_true rfl) (by omega) (n := 41) rfl ?_
          show PW zm_X8_behind d 41 [(6, .int 1), (5, .int 1), (0, .ref 0), (1, .int sh), (2, .int n), (3, .int one), (4, .int what)] [.int (f_X8_isShelf sh)] SH (I, L, z_R b) 0 0 _
          refine p_if_eq (z_dec zd_X8_behind 21 rfl) (t := 79) (by decide) (n := 44) rfl (fun h41 => ?_) (fun h41 => ?_)
          · refine p_iconst (z_dec zd_X8_behind 38 rfl) (v := (-1)) (by decide) (n := 80) rfl ?_
            exact p_iret (z_dec zd_X8_behind 39 rfl) rfl ⟨(by unfold f_X8_behind; rw [if_pos h2, if_neg h21, if_pos h27, if_pos h41]), rfl, (z_3 (by unfold m_X8_behind; rw [if_pos h2, if_neg h21, if_pos h27, if_pos h41]) rfl)⟩
          · have hj_sh := z_shc h41
            refine p_iload_n (z_dec zd_X8_behind 22 rfl) rfl 4 rfl (n := 45) rfl ?_
            refine p_if_lt (z_dec zd_X8_behind 23 rfl) (t := 79) (by decide) (n := 48) rfl (fun h45 => ?_) (fun h45 => ?_)
            · refine p_iconst (z_dec zd_X8_behind 38 rfl) (v := (-1)) (by decide) (n := 80) rfl ?_
              exact p_iret (z_dec zd_X8_behind 39 rfl) rfl ⟨(by unfold f_X8_behind; rw [if_pos h2, if_neg h21, if_pos h27, if_neg h41, if_pos h45]), rfl, (z_3 (by unfold m_X8_behind; rw [if_pos h2, if_neg h21, if_pos h27, if_neg h41, if_pos h45]) rfl)⟩
            · refine p_iload_n (z_dec zd_X8_behind 24 rfl) rfl 4 rfl (n := 49) rfl ?_
              refine p_bipush (z_dec zd_X8_behind 25 rfl) (v := 20) (by decide) (n := 51) rfl ?_
              refine p_icmp_gt (z_dec zd_X8_behind 26 rfl) (t := 79) (by decide) (n := 54) rfl (fun h51 => ?_) (fun h51 => ?_)
              · refine p_iconst (z_dec zd_X8_behind 38 rfl) (v := (-1)) (by decide) (n := 80) rfl ?_
                exact p_iret (z_dec zd_X8_behind 39 rfl) rfl ⟨(by unfold f_X8_behind; rw [if_pos h2, if_neg h21, if_pos h27, if_neg h41, if_neg h45, if_pos h51]), rfl, (z_3 (by unfold m_X8_behind; rw [if_pos h2, if_neg h21, if_pos h27, if_neg h41, if_neg h45, if_pos h51]) rfl)⟩
              · have hn20 := z_in20 h45 h51
                refine p_iload (z_dec zd_X8_behind 27 rfl) 1 rfl (n := 56) rfl ?_
                refine p_if_eq (z_dec zd_X8_behind 28 rfl) (t := 70) (by decide) (n := 59) rfl (fun h56 => ?_) (fun h56 => ?_)
                · exact absurd h56 (by decide)
                · refine p_aload_n (z_dec zd_X8_behind 29 rfl) rfl 2 rfl (n := 60) rfl ?_
                  refine q_getR (z_dec zd_X8_behind 30 rfl) zf_X8_10 (i := 1) rfl rfl (n := 63) rfl ?_
                  refine p_iload_n (z_dec zd_X8_behind 31 rfl) rfl 5 rfl (n := 64) rfl ?_
                  refine q_callV (As := [.int one]) (rest := []) (z_dec zd_X8_behind 32 rfl) zk_X8_133 zv_X7_has (c_X7_has (d - 1) (by omega) b I L 1 (z_Yd1 b) one) rfl ⟨_, _, rfl⟩ rfl rfl (Nat.le_of_ble_eq_true rfl) (by omega) (n := 67) rfl ?_
                  show PW zm_X8_behind d 67 [(6, .int 1), (5, .int 1), (0, .ref 0), (1, .int sh), (2, .int n), (3, .int one), (4, .int what)] [.int (f_X7_has I 1 one)] SH (I, L, z_R b) 0 0 _
                  refine p_if_ne (z_dec zd_X8_behind 33 rfl) (t := 81) (by decide) (n := 70) rfl (fun h67 => ?_) (fun h67 => ?_)
                  · have hj := z_has hnp hn10 h67
                    refine p_aload_n (z_dec zd_X8_behind 40 rfl) rfl 2 rfl (n := 82) rfl ?_
                    refine p_iload_n (z_dec zd_X8_behind 41 rfl) rfl 3 rfl (n := 83) rfl ?_
                    refine q_callV (As := [.int sh]) (rest := []) (z_dec zd_X8_behind 42 rfl) zk_X8_142 zv_X8_bytesRefusal (c_X8_bytesRefusal (d - 1) (by omega) b I L sh) rfl ⟨_, _, rfl⟩ rfl rfl (Nat.le_of_ble_eq_true rfl) (by omega) (n := 86) rfl ?_
                    show PW zm_X8_behind d 86 [(6, .int 1), (5, .int 1), (0, .ref 0), (1, .int sh), (2, .int n), (3, .int one), (4, .int what)] [.int (f_X8_bytesRefusal I sh)] SH (I, L, z_R b) 0 0 _
                    refine p_istore (z_dec zd_X8_behind 43 rfl) (lv2 := [(7, .int (f_X8_bytesRefusal I sh)), (6, .int 1), (5, .int 1), (0, .ref 0), (1, .int sh), (2, .int n), (3, .int one), (4, .int what)]) (by decide) rfl (n := 88) rfl ?_
                    refine p_iload (z_dec zd_X8_behind 44 rfl) 0 rfl (n := 90) rfl ?_
                    refine p_if_eq (z_dec zd_X8_behind 45 rfl) (t := 96) (by decide) (n := 93) rfl (fun h90 => ?_) (fun h90 => ?_)
                    · refine p_aload_n (z_dec zd_X8_behind 48 rfl) rfl 3 rfl (n := 97) rfl ?_
                      refine q_getR (z_dec zd_X8_behind 49 rfl) zf_X8_33 (i := 18) rfl rfl (n := 100) rfl ?_
                      refine p_aload_n (z_dec zd_X8_behind 50 rfl) rfl 3 rfl (n := 101) rfl ?_
                      refine q_getR (z_dec zd_X8_behind 51 rfl) zf_X8_10 (i := 1) rfl rfl (n := 104) rfl ?_
                      refine q_callV (As := [.ref 1]) (rest := []) (z_dec zd_X8_behind 52 rfl) zk_X8_146 zv_X3_begin (c_X3_begin (d - 1) (by omega) b I L np hnp hn10) rfl ⟨_, _, rfl⟩ rfl rfl (Nat.le_of_ble_eq_true rfl) (by omega) (n := 107) rfl ?_
                      show PW zm_X8_behind d 107 [(7, .int (f_X8_bytesRefusal I sh)), (6, .int 1), (5, .int 1), (0, .ref 0), (1, .int sh), (2, .int n), (3, .int one), (4, .int what)] [] SH ((m_X3_begin I np), L, z_R b) 0 0 _
                      have hP107 : z_H np sz (42 + 2 * sh.toNatClampNeg) (I (42 + 2 * sh.toNatClampNeg) 2).toNatClampNeg ((m_X3_begin I np)) := z_H_bg (by omega) hsz (hsl _ hj_sh.2).1
                      refine p_aload_n (z_dec zd_X8_behind 53 rfl) rfl 3 rfl (n := 108) rfl ?_
                      refine q_getR (z_dec zd_X8_behind 54 rfl) zf_X8_33 (i := 18) rfl rfl (n := 111) rfl ?_
                      refine p_iload_n (z_dec zd_X8_behind 55 rfl) rfl 5 rfl (n := 112) rfl ?_
                      refine p_aload_n (z_dec zd_X8_behind 56 rfl) rfl 3 rfl (n := 113) rfl ?_
                      refine q_getR (z_dec zd_X8_behind 57 rfl) zf_X8_67 (i := 41) rfl rfl (n := 116) rfl ?_
                      refine p_iload_n (z_dec zd_X8_behind 58 rfl) rfl 4 rfl (n := 117) rfl ?_
                      refine q_aald (z_dec zd_X8_behind 59 rfl) rfl (by decide) (sh.toNatClampNeg) hj_sh.1 hj_sh.2 (a := (42 + 2 * sh.toNatClampNeg)) (if_pos hj_sh.2) (n := 118) rfl ?_
                      refine p_aload_n (z_dec zd_X8_behind 60 rfl) rfl 3 rfl (n := 119) rfl ?_
                      refine q_getR (z_dec zd_X8_behind 61 rfl) zf_X8_26 (i := 13) rfl rfl (n := 122) rfl ?_
                      refine p_iconst (z_dec zd_X8_behind 62 rfl) (v := 0) (by decide) (n := 123) rfl ?_
                      refine q_callV (As := [.int (nI n.toNatClampNeg), .ref (42 + 2 * sh.toNatClampNeg), .ref 13, .int 0]) (rest := []) (z_dec zd_X8_behind 63 rfl) zk_X8_160 zv_X3_goThrough (c_X3_goThrough (d - 1) (by omega) b (m_X3_begin I np) L (42 + 2 * sh.toNatClampNeg) (z_SfOf b _ hj_sh.2) (by omega) np hn10 sz hs121 (I (42 + 2 * sh.toNatClampNeg) 2).toNatClampNeg (hsl _ hj_sh.2).2 hP107 n.toNatClampNeg (by omega) 0) rfl ⟨_, _, rfl⟩ (by simp only [← hn20.1]; rfl) rfl (Nat.le_of_ble_eq_true rfl) (by omega) (n := 126) rfl ?_
                      show PW zm_X8_behind d 126 [(7, .int (f_X8_bytesRefusal I sh)), (6, .int 1), (5, .int 1), (0, .ref 0), (1, .int sh), (2, .int n), (3, .int one), (4, .int what)] [] SH ((m_X3_goThrough b (m_X3_begin I np) L (42 + 2 * sh.toNatClampNeg) np sz (I (42 + 2 * sh.toNatClampNeg) 2).toNatClampNeg n.toNatClampNeg 0), L, z_R b) 0 0 _
                      have hP126 : z_H np sz (42 + 2 * sh.toNatClampNeg) (I (42 + 2 * sh.toNatClampNeg) 2).toNatClampNeg ((m_X3_goThrough b (m_X3_begin I np) L (42 + 2 * sh.toNatClampNeg) np sz (I (42 + 2 * sh.toNatClampNeg) 2).toNatClampNeg n.toNatClampNeg 0)) := z_H_gt (by omega) b L _ _ hP107
                      refine p_iload (z_dec zd_X8_behind 64 rfl) 7 rfl (n := 128) rfl ?_
                      by_cases hs128_0 : what = 0
                      · refine p_tableIn (z_dec zd_X8_behind 65 rfl) (off := 28) (t := 156) (by rw [hs128_0]; decide) (by rw [hs128_0]; decide) (by rw [hs128_0]; rfl) (by decide) ?_
                        refine p_aload_n (z_dec zd_X8_behind 66 rfl) rfl 3 rfl (n := 157) rfl ?_
                        refine q_getR (z_dec zd_X8_behind 67 rfl) zf_X8_33 (i := 18) rfl rfl (n := 160) rfl ?_
                        refine q_getR (z_dec zd_X8_behind 68 rfl) zf_X8_164 (i := 19) rfl rfl (n := 163) rfl ?_
                        refine q_getR (z_dec zd_X8_behind 69 rfl) zf_X8_165 (i := 22) rfl rfl (n := 166) rfl ?_
                        refine p_iload_n (z_dec zd_X8_behind 70 rfl) rfl 6 rfl (n := 167) rfl ?_
                        refine q_iald (z_dec zd_X8_behind 71 rfl) rfl (by decide) (one.toNatClampNeg) hj.1 (Nat.lt_of_lt_of_le hj.2 hn10) (v := ((m_X3_goThrough b (m_X3_begin I np) L (42 + 2 * sh.toNatClampNeg) np sz (I (42 + 2 * sh.toNatClampNeg) 2).toNatClampNeg n.toNatClampNeg 0) 22 one.toNatClampNeg)) rfl (n := 168) rfl ?_
                        exact p_iret (z_dec zd_X8_behind 72 rfl) rfl ⟨(by unfold f_X8_behind; rw [if_pos h2, if_neg h21, if_pos h27, if_neg h41, if_neg h45, if_neg h51, if_neg h67, if_pos h90, if_pos hs128_0]), rfl, (z_3 (by unfold m_X8_behind; rw [if_pos h2, if_neg h21, if_pos h27, if_neg h41, if_neg h45, if_neg h51, if_neg h67, if_pos h90, if_pos hs128_0]) rfl)⟩
                      by_cases hs128_1 : what = 1
                      · refine p_tableIn (z_dec zd_X8_behind 65 rfl) (off := 41) (t := 169) (by rw [hs128_1]; decide) (by rw [hs128_1]; decide) (by rw [hs128_1]; rfl) (by decide) ?_
                        refine p_aload_n (z_dec zd_X8_behind 73 rfl) rfl 3 rfl (n := 170) rfl ?_
                        refine q_getR (z_dec zd_X8_behind 74 rfl) zf_X8_33 (i := 18) rfl rfl (n := 173) rfl ?_
                        refine q_getR (z_dec zd_X8_behind 75 rfl) zf_X8_164 (i := 19) rfl rfl (n := 176) rfl ?_
                        refine q_getR (z_dec zd_X8_behind 76 rfl) zf_X8_169 (i := 21) rfl rfl (n := 179) rfl ?_
                        refine p_iload_n (z_dec zd_X8_behind 77 rfl) rfl 6 rfl (n := 180) rfl ?_
                        refine q_iald (z_dec zd_X8_behind 78 rfl) rfl (by decide) (one.toNatClampNeg) hj.1 (Nat.lt_of_lt_of_le hj.2 hn10) (v := ((m_X3_goThrough b (m_X3_begin I np) L (42 + 2 * sh.toNatClampNeg) np sz (I (42 + 2 * sh.toNatClampNeg) 2).toNatClampNeg n.toNatClampNeg 0) 21 one.toNatClampNeg)) rfl (n := 181) rfl ?_
                        exact p_iret (z_dec zd_X8_behind 79 rfl) rfl ⟨(by unfold f_X8_behind; rw [if_pos h2, if_neg h21, if_pos h27, if_neg h41, if_neg h45, if_neg h51, if_neg h67, if_pos h90, if_neg hs128_0, if_pos hs128_1]), rfl, (z_3 (by unfold m_X8_behind; rw [if_pos h2, if_neg h21, if_pos h27, if_neg h41, if_neg h45, if_neg h51, if_neg h67, if_pos h90, if_neg hs128_0, if_pos hs128_1]) rfl)⟩
                      by_cases hs128_2 : what = 2
                      · refine p_tableIn (z_dec zd_X8_behind 65 rfl) (off := 54) (t := 182) (by rw [hs128_2]; decide) (by rw [hs128_2]; decide) (by rw [hs128_2]; rfl) (by decide) ?_
                        refine p_aload_n (z_dec zd_X8_behind 80 rfl) rfl 3 rfl (n := 183) rfl ?_
                        refine q_getR (z_dec zd_X8_behind 81 rfl) zf_X8_33 (i := 18) rfl rfl (n := 186) rfl ?_
                        refine q_getR (z_dec zd_X8_behind 82 rfl) zf_X8_164 (i := 19) rfl rfl (n := 189) rfl ?_
                        refine q_callV (As := []) (rest := []) (z_dec zd_X8_behind 83 rfl) zk_X8_130 zv_X7_judgeBits (c_X7_judgeBits (d - 1) (by omega) b (m_X3_goThrough b (m_X3_begin I np) L (42 + 2 * sh.toNatClampNeg) np sz (I (42 + 2 * sh.toNatClampNeg) 2).toNatClampNeg n.toNatClampNeg 0) L 19 (z_Yd19 b) np hP126.1 hn10) rfl ⟨_, _, rfl⟩ rfl rfl (Nat.le_of_ble_eq_true rfl) (by omega) (n := 192) rfl ?_
                        show PW zm_X8_behind d 192 [(7, .int (f_X8_bytesRefusal I sh)), (6, .int 1), (5, .int 1), (0, .ref 0), (1, .int sh), (2, .int n), (3, .int one), (4, .int what)] [.int (f_X7_judgeBits (m_X3_goThrough b (m_X3_begin I np) L (42 + 2 * sh.toNatClampNeg) np sz (I (42 + 2 * sh.toNatClampNeg) 2).toNatClampNeg n.toNatClampNeg 0) 19 np)] SH ((m_X3_goThrough b (m_X3_begin I np) L (42 + 2 * sh.toNatClampNeg) np sz (I (42 + 2 * sh.toNatClampNeg) 2).toNatClampNeg n.toNatClampNeg 0), L, z_R b) 0 0 _
                        exact p_iret (z_dec zd_X8_behind 84 rfl) rfl ⟨(by unfold f_X8_behind; rw [if_pos h2, if_neg h21, if_pos h27, if_neg h41, if_neg h45, if_neg h51, if_neg h67, if_pos h90, if_neg hs128_0, if_neg hs128_1, if_pos hs128_2]), rfl, (z_3 (by unfold m_X8_behind; rw [if_pos h2, if_neg h21, if_pos h27, if_neg h41, if_neg h45, if_neg h51, if_neg h67, if_pos h90, if_neg hs128_0, if_neg hs128_1, if_pos hs128_2]) rfl)⟩
                      have hs128_0n : ¬ what.toInt = 0 := lv_neT hs128_0 rfl
                      have hs128_1n : ¬ what.toInt = 1 := lv_neT hs128_1 rfl
                      have hs128_2n : ¬ what.toInt = 2 := lv_neT hs128_2 rfl
                      refine p_tableOut (z_dec zd_X8_behind 65 rfl) (t := 193) (by omega) (by decide) ?_
                      refine p_aload_n (z_dec zd_X8_behind 85 rfl) rfl 3 rfl (n := 194) rfl ?_
                      refine q_getR (z_dec zd_X8_behind 86 rfl) zf_X8_33 (i := 18) rfl rfl (n := 197) rfl ?_
                      refine q_getI (z_dec zd_X8_behind 87 rfl) zf_X8_154 (by decide) rfl (v := ((m_X3_goThrough b (m_X3_begin I np) L (42 + 2 * sh.toNatClampNeg) np sz (I (42 + 2 * sh.toNatClampNeg) 2).toNatClampNeg n.toNatClampNeg 0) 18 2)) rfl (n := 200) rfl ?_
                      exact p_iret (z_dec zd_X8_behind 88 rfl) rfl ⟨(by unfold f_X8_behind; rw [if_pos h2, if_neg h21, if_pos h27, if_neg h41, if_neg h45, if_neg h51, if_neg h67, if_pos h90, if_neg hs128_0, if_neg hs128_1, if_neg hs128_2]), rfl, (z_3 (by unfold m_X8_behind; rw [if_pos h2, if_neg h21, if_pos h27, if_neg h41, if_neg h45, if_neg h51, if_neg h67, if_pos h90, if_neg hs128_0, if_neg hs128_1, if_neg hs128_2]) rfl)⟩
                    · refine p_iload (z_dec zd_X8_behind 46 rfl) 0 rfl (n := 95) rfl ?_
                      exact p_iret (z_dec zd_X8_behind 47 rfl) rfl ⟨(by unfold f_X8_behind; rw [if_pos h2, if_neg h21, if_pos h27, if_neg h41, if_neg h45, if_neg h51, if_neg h67, if_neg h90]), rfl, (z_3 (by unfold m_X8_behind; rw [if_pos h2, if_neg h21, if_pos h27, if_neg h41, if_neg h45, if_neg h51, if_neg h67, if_neg h90]) rfl)⟩
                  · refine p_iload (z_dec zd_X8_behind 34 rfl) 0 rfl (n := 72) rfl ?_
                    refine p_if_eq (z_dec zd_X8_behind 35 rfl) (t := 79) (by decide) (n := 75) rfl (fun h72 => ?_) (fun h72 => ?_)
                    · exact absurd h72 (by decide)
                    · refine p_iload_n (z_dec zd_X8_behind 36 rfl) rfl 5 rfl (n := 76) rfl ?_
                      refine p_if_eq (z_dec zd_X8_behind 37 rfl) (t := 81) (by decide) (n := 79) rfl (fun h76 => ?_) (fun h76 => ?_)
                      · refine p_aload_n (z_dec zd_X8_behind 40 rfl) rfl 2 rfl (n := 82) rfl ?_
                        refine p_iload_n (z_dec zd_X8_behind 41 rfl) rfl 3 rfl (n := 83) rfl ?_
                        refine q_callV (As := [.int sh]) (rest := []) (z_dec zd_X8_behind 42 rfl) zk_X8_142 zv_X8_bytesRefusal (c_X8_bytesRefusal (d - 1) (by omega) b I L sh) rfl ⟨_, _, rfl⟩ rfl rfl (Nat.le_of_ble_eq_true rfl) (by omega) (n := 86) rfl ?_
                        show PW zm_X8_behind d 86 [(6, .int 1), (5, .int 1), (0, .ref 0), (1, .int sh), (2, .int n), (3, .int one), (4, .int what)] [.int (f_X8_bytesRefusal I sh)] SH (I, L, z_R b) 0 0 _
                        refine p_istore (z_dec zd_X8_behind 43 rfl) (lv2 := [(7, .int (f_X8_bytesRefusal I sh)), (6, .int 1), (5, .int 1), (0, .ref 0), (1, .int sh), (2, .int n), (3, .int one), (4, .int what)]) (by decide) rfl (n := 88) rfl ?_
                        refine p_iload (z_dec zd_X8_behind 44 rfl) 0 rfl (n := 90) rfl ?_
                        refine p_if_eq (z_dec zd_X8_behind 45 rfl) (t := 96) (by decide) (n := 93) rfl (fun h90 => ?_) (fun h90 => ?_)
                        · refine p_aload_n (z_dec zd_X8_behind 48 rfl) rfl 3 rfl (n := 97) rfl ?_
                          refine q_getR (z_dec zd_X8_behind 49 rfl) zf_X8_33 (i := 18) rfl rfl (n := 100) rfl ?_
                          refine p_aload_n (z_dec zd_X8_behind 50 rfl) rfl 3 rfl (n := 101) rfl ?_
                          refine q_getR (z_dec zd_X8_behind 51 rfl) zf_X8_10 (i := 1) rfl rfl (n := 104) rfl ?_
                          refine q_callV (As := [.ref 1]) (rest := []) (z_dec zd_X8_behind 52 rfl) zk_X8_146 zv_X3_begin (c_X3_begin (d - 1) (by omega) b I L np hnp hn10) rfl ⟨_, _, rfl⟩ rfl rfl (Nat.le_of_ble_eq_true rfl) (by omega) (n := 107) rfl ?_
                          show PW zm_X8_behind d 107 [(7, .int (f_X8_bytesRefusal I sh)), (6, .int 1), (5, .int 1), (0, .ref 0), (1, .int sh), (2, .int n), (3, .int one), (4, .int what)] [] SH ((m_X3_begin I np), L, z_R b) 0 0 _
                          have hP107 : z_H np sz (42 + 2 * sh.toNatClampNeg) (I (42 + 2 * sh.toNatClampNeg) 2).toNatClampNeg ((m_X3_begin I np)) := z_H_bg (by omega) hsz (hsl _ hj_sh.2).1
                          refine p_aload_n (z_dec zd_X8_behind 53 rfl) rfl 3 rfl (n := 108) rfl ?_
                          refine q_getR (z_dec zd_X8_behind 54 rfl) zf_X8_33 (i := 18) rfl rfl (n := 111) rfl ?_
                          refine p_iload_n (z_dec zd_X8_behind 55 rfl) rfl 5 rfl (n := 112) rfl ?_
                          refine p_aload_n (z_dec zd_X8_behind 56 rfl) rfl 3 rfl (n := 113) rfl ?_
                          refine q_getR (z_dec zd_X8_behind 57 rfl) zf_X8_67 (i := 41) rfl rfl (n := 116) rfl ?_
                          refine p_iload_n (z_dec zd_X8_behind 58 rfl) rfl 4 rfl (n := 117) rfl ?_
                          refine q_aald (z_dec zd_X8_behind 59 rfl) rfl (by decide) (sh.toNatClampNeg) hj_sh.1 hj_sh.2 (a := (42 + 2 * sh.toNatClampNeg)) (if_pos hj_sh.2) (n := 118) rfl ?_
                          refine p_aload_n (z_dec zd_X8_behind 60 rfl) rfl 3 rfl (n := 119) rfl ?_
                          refine q_getR (z_dec zd_X8_behind 61 rfl) zf_X8_26 (i := 13) rfl rfl (n := 122) rfl ?_
                          refine p_iconst (z_dec zd_X8_behind 62 rfl) (v := 0) (by decide) (n := 123) rfl ?_
                          refine q_callV (As := [.int (nI n.toNatClampNeg), .ref (42 + 2 * sh.toNatClampNeg), .ref 13, .int 0]) (rest := []) (z_dec zd_X8_behind 63 rfl) zk_X8_160 zv_X3_goThrough (c_X3_goThrough (d - 1) (by omega) b (m_X3_begin I np) L (42 + 2 * sh.toNatClampNeg) (z_SfOf b _ hj_sh.2) (by omega) np hn10 sz hs121 (I (42 + 2 * sh.toNatClampNeg) 2).toNatClampNeg (hsl _ hj_sh.2).2 hP107 n.toNatClampNeg (by omega) 0) rfl ⟨_, _, rfl⟩ (by simp only [← hn20.1]; rfl) rfl (Nat.le_of_ble_eq_true rfl) (by omega) (n := 126) rfl ?_
                          show PW zm_X8_behind d 126 [(7, .int (f_X8_bytesRefusal I sh)), (6, .int 1), (5, .int 1), (0, .ref 0), (1, .int sh), (2, .int n), (3, .int one), (4, .int what)] [] SH ((m_X3_goThrough b (m_X3_begin I np) L (42 + 2 * sh.toNatClampNeg) np sz (I (42 + 2 * sh.toNatClampNeg) 2).toNatClampNeg n.toNatClampNeg 0), L, z_R b) 0 0 _
                          have hP126 : z_H np sz (42 + 2 * sh.toNatClampNeg) (I (42 + 2 * sh.toNatClampNeg) 2).toNatClampNeg ((m_X3_goThrough b (m_X3_begin I np) L (42 + 2 * sh.toNatClampNeg) np sz (I (42 + 2 * sh.toNatClampNeg) 2).toNatClampNeg n.toNatClampNeg 0)) := z_H_gt (by omega) b L _ _ hP107
                          refine p_iload (z_dec zd_X8_behind 64 rfl) 7 rfl (n := 128) rfl ?_
                          by_cases hs128_0 : what = 0
                          · refine p_tableIn (z_dec zd_X8_behind 65 rfl) (off := 28) (t := 156) (by rw [hs128_0]; decide) (by rw [hs128_0]; decide) (by rw [hs128_0]; rfl) (by decide) ?_
                            refine p_aload_n (z_dec zd_X8_behind 66 rfl) rfl 3 rfl (n := 157) rfl ?_
                            refine q_getR (z_dec zd_X8_behind 67 rfl) zf_X8_33 (i := 18) rfl rfl (n := 160) rfl ?_
                            refine q_getR (z_dec zd_X8_behind 68 rfl) zf_X8_164 (i := 19) rfl rfl (n := 163) rfl ?_
                            refine q_getR (z_dec zd_X8_behind 69 rfl) zf_X8_165 (i := 22) rfl rfl (n := 166) rfl ?_
                            refine p_iload_n (z_dec zd_X8_behind 70 rfl) rfl 6 rfl (n := 167) rfl ?_
                            refine q_iald (z_dec zd_X8_behind 71 rfl) rfl (by decide) (0) h76 (by decide) (v := ((m_X3_goThrough b (m_X3_begin I np) L (42 + 2 * sh.toNatClampNeg) np sz (I (42 + 2 * sh.toNatClampNeg) 2).toNatClampNeg n.toNatClampNeg 0) 22 0)) rfl (n := 168) rfl ?_
                            exact p_iret (z_dec zd_X8_behind 72 rfl) rfl ⟨(by unfold f_X8_behind; rw [if_pos h2, if_neg h21, if_pos h27, if_neg h41, if_neg h45, if_neg h51, if_pos h67, if_pos h76, if_pos h90, if_pos hs128_0]), rfl, (z_3 (by unfold m_X8_behind; rw [if_pos h2, if_neg h21, if_pos h27, if_neg h41, if_neg h45, if_neg h51, if_pos h67, if_pos h76, if_pos h90, if_pos hs128_0]) rfl)⟩
                          by_cases hs128_1 : what = 1
                          · refine p_tableIn (z_dec zd_X8_behind 65 rfl) (off := 41) (t := 169) (by rw [hs128_1]; decide) (by rw [hs128_1]; decide) (by rw [hs128_1]; rfl) (by decide) ?_
                            refine p_aload_n (z_dec zd_X8_behind 73 rfl) rfl 3 rfl (n := 170) rfl ?_
                            refine q_getR (z_dec zd_X8_behind 74 rfl) zf_X8_33 (i := 18) rfl rfl (n := 173) rfl ?_
                            refine q_getR (z_dec zd_X8_behind 75 rfl) zf_X8_164 (i := 19) rfl rfl (n := 176) rfl ?_
                            refine q_getR (z_dec zd_X8_behind 76 rfl) zf_X8_169 (i := 21) rfl rfl (n := 179) rfl ?_
                            refine p_iload_n (z_dec zd_X8_behind 77 rfl) rfl 6 rfl (n := 180) rfl ?_
                            refine q_iald (z_dec zd_X8_behind 78 rfl) rfl (by decide) (0) h76 (by decide) (v := ((m_X3_goThrough b (m_X3_begin I np) L (42 + 2 * sh.toNatClampNeg) np sz (I (42 + 2 * sh.toNatClampNeg) 2).toNatClampNeg n.toNatClampNeg 0) 21 0)) rfl (n := 181) rfl ?_
                            exact p_iret (z_dec zd_X8_behind 79 rfl) rfl ⟨(by unfold f_X8_behind; rw [if_pos h2, if_neg h21, if_pos h27, if_neg h41, if_neg h45, if_neg h51, if_pos h67, if_pos h76, if_pos h90, if_neg hs128_0, if_pos hs128_1]), rfl, (z_3 (by unfold m_X8_behind; rw [if_pos h2, if_neg h21, if_pos h27, if_neg h41, if_neg h45, if_neg h51, if_pos h67, if_pos h76, if_pos h90, if_neg hs128_0, if_pos hs128_1]) rfl)⟩
                          by_cases hs128_2 : what = 2
                          · refine p_tableIn (z_dec zd_X8_behind 65 rfl) (off := 54) (t := 182) (by rw [hs128_2]; decide) (by rw [hs128_2]; decide) (by rw [hs128_2]; rfl) (by decide) ?_
                            refine p_aload_n (z_dec zd_X8_behind 80 rfl) rfl 3 rfl (n := 183) rfl ?_
                            refine q_getR (z_dec zd_X8_behind 81 rfl) zf_X8_33 (i := 18) rfl rfl (n := 186) rfl ?_
                            refine q_getR (z_dec zd_X8_behind 82 rfl) zf_X8_164 (i := 19) rfl rfl (n := 189) rfl ?_
                            refine q_callV (As := []) (rest := []) (z_dec zd_X8_behind 83 rfl) zk_X8_130 zv_X7_judgeBits (c_X7_judgeBits (d - 1) (by omega) b (m_X3_goThrough b (m_X3_begin I np) L (42 + 2 * sh.toNatClampNeg) np sz (I (42 + 2 * sh.toNatClampNeg) 2).toNatClampNeg n.toNatClampNeg 0) L 19 (z_Yd19 b) np hP126.1 hn10) rfl ⟨_, _, rfl⟩ rfl rfl (Nat.le_of_ble_eq_true rfl) (by omega) (n := 192) rfl ?_
                            show PW zm_X8_behind d 192 [(7, .int (f_X8_bytesRefusal I sh)), (6, .int 1), (5, .int 1), (0, .ref 0), (1, .int sh), (2, .int n), (3, .int one), (4, .int what)] [.int (f_X7_judgeBits (m_X3_goThrough b (m_X3_begin I np) L (42 + 2 * sh.toNatClampNeg) np sz (I (42 + 2 * sh.toNatClampNeg) 2).toNatClampNeg n.toNatClampNeg 0) 19 np)] SH ((m_X3_goThrough b (m_X3_begin I np) L (42 + 2 * sh.toNatClampNeg) np sz (I (42 + 2 * sh.toNatClampNeg) 2).toNatClampNeg n.toNatClampNeg 0), L, z_R b) 0 0 _
                            exact p_iret (z_dec zd_X8_behind 84 rfl) rfl ⟨(by unfold f_X8_behind; rw [if_pos h2, if_neg h21, if_pos h27, if_neg h41, if_neg h45, if_neg h51, if_pos h67, if_pos h76, if_pos h90, if_neg hs128_0, if_neg hs128_1, if_pos hs128_2]), rfl, (z_3 (by unfold m_X8_behind; rw [if_pos h2, if_neg h21, if_pos h27, if_neg h41, if_neg h45, if_neg h51, if_pos h67, if_pos h76, if_pos h90, if_neg hs128_0, if_neg hs128_1, if_pos hs128_2]) rfl)⟩
                          have hs128_0n : ¬ what.toInt = 0 := lv_neT hs128_0 rfl
                          have hs128_1n : ¬ what.toInt = 1 := lv_neT hs128_1 rfl
                          have hs128_2n : ¬ what.toInt = 2 := lv_neT hs128_2 rfl
                          refine p_tableOut (z_dec zd_X8_behind 65 rfl) (t := 193) (by omega) (by decide) ?_
                          refine p_aload_n (z_dec zd_X8_behind 85 rfl) rfl 3 rfl (n := 194) rfl ?_
                          refine q_getR (z_dec zd_X8_behind 86 rfl) zf_X8_33 (i := 18) rfl rfl (n := 197) rfl ?_
                          refine q_getI (z_dec zd_X8_behind 87 rfl) zf_X8_154 (by decide) rfl (v := ((m_X3_goThrough b (m_X3_begin I np) L (42 + 2 * sh.toNatClampNeg) np sz (I (42 + 2 * sh.toNatClampNeg) 2).toNatClampNeg n.toNatClampNeg 0) 18 2)) rfl (n := 200) rfl ?_
                          exact p_iret (z_dec zd_X8_behind 88 rfl) rfl ⟨(by unfold f_X8_behind; rw [if_pos h2, if_neg h21, if_pos h27, if_neg h41, if_neg h45, if_neg h51, if_pos h67, if_pos h76, if_pos h90, if_neg hs128_0, if_neg hs128_1, if_neg hs128_2]), rfl, (z_3 (by unfold m_X8_behind; rw [if_pos h2, if_neg h21, if_pos h27, if_neg h41, if_neg h45, if_neg h51, if_pos h67, if_pos h76, if_pos h90, if_neg hs128_0, if_neg hs128_1, if_neg hs128_2]) rfl)⟩
                        · refine p_iload (z_dec zd_X8_behind 46 rfl) 0 rfl (n := 95) rfl ?_
                          exact p_iret (z_dec zd_X8_behind 47 rfl) rfl ⟨(by unfold f_X8_behind; rw [if_pos h2, if_neg h21, if_pos h27, if_neg h41, if_neg h45, if_neg h51, if_pos h67, if_pos h76, if_neg h90]), rfl, (z_3 (by unfold m_X8_behind; rw [if_pos h2, if_neg h21, if_pos h27, if_neg h41, if_neg h45, if_neg h51, if_pos h67, if_pos h76, if_neg h90]) rfl)⟩
                      · refine p_iconst (z_dec zd_X8_behind 38 rfl) (v := (-1)) (by decide) (n := 80) rfl ?_
                        exact p_iret (z_dec zd_X8_behind 39 rfl) rfl ⟨(by unfold f_X8_behind; rw [if_pos h2, if_neg h21, if_pos h27, if_neg h41, if_neg h45, if_neg h51, if_pos h67, if_neg h76]), rfl, (z_3 (by unfold m_X8_behind; rw [if_pos h2, if_neg h21, if_pos h27, if_neg h41, if_neg h45, if_neg h51, if_pos h67, if_neg h76]) rfl)⟩
    · refine p_iload (z_dec zd_X8_behind 2 rfl) 4 rfl (n := 7) rfl ?_
      refine p_iconst (z_dec zd_X8_behind 3 rfl) (v := 1) (by decide) (n := 8) rfl ?_
      refine p_icmp_ne (z_dec zd_X8_behind 4 rfl) (t := 15) (by decide) (n := 11) rfl (fun h8 => ?_) (fun h8 => ?_)
      · refine p_iconst (z_dec zd_X8_behind 7 rfl) (v := 0) (by decide) (n := 16) rfl ?_
        refine p_istore (z_dec zd_X8_behind 8 rfl) (lv2 := [(5, .int 0), (0, .ref 0), (1, .int sh), (2, .int n), (3, .int one), (4, .int what)]) (by decide) rfl (n := 18) rfl ?_
        refine p_iload (z_dec zd_X8_behind 9 rfl) 5 rfl (n := 20) rfl ?_
        refine p_iconst (z_dec zd_X8_behind 10 rfl) (v := 2) (by decide) (n := 21) rfl ?_
        refine p_icmp_eq (z_dec zd_X8_behind 11 rfl) (t := 30) (by decide) (n := 24) rfl (fun h21 => ?_) (fun h21 => ?_)
        · refine p_iconst (z_dec zd_X8_behind 15 rfl) (v := 1) (by decide) (n := 31) rfl ?_
          refine p_goto (z_dec zd_X8_behind 16 rfl) (t := 35) (by decide) ?_
          refine p_istore (z_dec zd_X8_behind 18 rfl) (lv2 := [(6, .int 1), (5, .int 0), (0, .ref 0), (1, .int sh), (2, .int n), (3, .int one), (4, .int what)]) (by decide) rfl (n := 37) rfl ?_
          refine p_iload_n (z_dec zd_X8_behind 19 rfl) rfl 3 rfl (n := 38) rfl ?_
          refine q_callS (As := [.int sh]) (rest := []) (z_dec zd_X8_behind 20 rfl) zk_X8_80 zs_X8_isShelf (c_X8_isShelf (d - 1) (by omega) b I L sh) rfl rfl (Nat.le_of_ble_eq_true rfl) (by omega) (n := 41) rfl ?_
          show PW zm_X8_behind d 41 [(6, .int 1), (5, .int 0), (0, .ref 0), (1, .int sh), (2, .int n), (3, .int one), (4, .int what)] [.int (f_X8_isShelf sh)] SH (I, L, z_R b) 0 0 _
          refine p_if_eq (z_dec zd_X8_behind 21 rfl) (t := 79) (by decide) (n := 44) rfl (fun h41 => ?_) (fun h41 => ?_)
          · refine p_iconst (z_dec zd_X8_behind 38 rfl) (v := (-1)) (by decide) (n := 80) rfl ?_
            exact p_iret (z_dec zd_X8_behind 39 rfl) rfl ⟨(by unfold f_X8_behind; rw [if_neg h2, if_neg h8, if_pos h21, if_pos h41]), rfl, (z_3 (by unfold m_X8_behind; rw [if_neg h2, if_neg h8, if_pos h21, if_pos h41]) rfl)⟩
          · have hj_sh := z_shc h41
            refine p_iload_n (z_dec zd_X8_behind 22 rfl) rfl 4 rfl (n := 45) rfl ?_
            refine p_if_lt (z_dec zd_X8_behind 23 rfl) (t := 79) (by decide) (n := 48) rfl (fun h45 => ?_) (fun h45 => ?_)
            · refine p_iconst (z_dec zd_X8_behind 38 rfl) (v := (-1)) (by decide) (n := 80) rfl ?_
              exact p_iret (z_dec zd_X8_behind 39 rfl) rfl ⟨(by unfold f_X8_behind; rw [if_neg h2, if_neg h8, if_pos h21, if_neg h41, if_pos h45]), rfl, (z_3 (by unfold m_X8_behind; rw [if_neg h2, if_neg h8, if_pos h21, if_neg h41, if_pos h45]) rfl)⟩
            · refine p_iload_n (z_dec zd_X8_behind 24 rfl) rfl 4 rfl (n := 49) rfl ?_
              refine p_bipush (z_dec zd_X8_behind 25 rfl) (v := 20) (by decide) (n := 51) rfl ?_
              refine p_icmp_gt (z_dec zd_X8_behind 26 rfl) (t := 79) (by decide) (n := 54) rfl (fun h51 => ?_) (fun h51 => ?_)
              · refine p_iconst (z_dec zd_X8_behind 38 rfl) (v := (-1)) (by decide) (n := 80) rfl ?_
                exact p_iret (z_dec zd_X8_behind 39 rfl) rfl ⟨(by unfold f_X8_behind; rw [if_neg h2, if_neg h8, if_pos h21, if_neg h41, if_neg h45, if_pos h51]), rfl, (z_3 (by unfold m_X8_behind; rw [if_neg h2, if_neg h8, if_pos h21, if_neg h41, if_neg h45, if_pos h51]) rfl)⟩
              · have hn20 := z_in20 h45 h51
                refine p_iload (z_dec zd_X8_behind 27 rfl) 1 rfl (n := 56) rfl ?_
                refine p_if_eq (z_dec zd_X8_behind 28 rfl) (t := 70) (by decide) (n := 59) rfl (fun h56 => ?_) (fun h56 => ?_)
                · refine p_iload (z_dec zd_X8_behind 34 rfl) 0 rfl (n := 72) rfl ?_
                  refine p_if_eq (z_dec zd_X8_behind 35 rfl) (t := 79) (by decide) (n := 75) rfl (fun h72 => ?_) (fun h72 => ?_)
                  · exact absurd h72 (by decide)
                  · refine p_iload_n (z_dec zd_X8_behind 36 rfl) rfl 5 rfl (n := 76) rfl ?_
                    refine p_if_eq (z_dec zd_X8_behind 37 rfl) (t := 81) (by decide) (n := 79) rfl (fun h76 => ?_) (fun h76 => ?_)
                    · refine p_aload_n (z_dec zd_X8_behind 40 rfl) rfl 2 rfl (n := 82) rfl ?_
                      refine p_iload_n (z_dec zd_X8_behind 41 rfl) rfl 3 rfl (n := 83) rfl ?_
                      refine q_callV (As := [.int sh]) (rest := []) (z_dec zd_X8_behind 42 rfl) zk_X8_142 zv_X8_bytesRefusal (c_X8_bytesRefusal (d - 1) (by omega) b I L sh) rfl ⟨_, _, rfl⟩ rfl rfl (Nat.le_of_ble_eq_true rfl) (by omega) (n := 86) rfl ?_
                      show PW zm_X8_behind d 86 [(6, .int 1), (5, .int 0), (0, .ref 0), (1, .int sh), (2, .int n), (3, .int one), (4, .int what)] [.int (f_X8_bytesRefusal I sh)] SH (I, L, z_R b) 0 0 _
                      refine p_istore (z_dec zd_X8_behind 43 rfl) (lv2 := [(7, .int (f_X8_bytesRefusal I sh)), (6, .int 1), (5, .int 0), (0, .ref 0), (1, .int sh), (2, .int n), (3, .int one), (4, .int what)]) (by decide) rfl (n := 88) rfl ?_
                      refine p_iload (z_dec zd_X8_behind 44 rfl) 0 rfl (n := 90) rfl ?_
                      refine p_if_eq (z_dec zd_X8_behind 45 rfl) (t := 96) (by decide) (n := 93) rfl (fun h90 => ?_) (fun h90 => ?_)
                      · refine p_aload_n (z_dec zd_X8_behind 48 rfl) rfl 3 rfl (n := 97) rfl ?_
                        refine q_getR (z_dec zd_X8_behind 49 rfl) zf_X8_33 (i := 18) rfl rfl (n := 100) rfl ?_
                        refine p_aload_n (z_dec zd_X8_behind 50 rfl) rfl 3 rfl (n := 101) rfl ?_
                        refine q_getR (z_dec zd_X8_behind 51 rfl) zf_X8_10 (i := 1) rfl rfl (n := 104) rfl ?_
                        refine q_callV (As := [.ref 1]) (rest := []) (z_dec zd_X8_behind 52 rfl) zk_X8_146 zv_X3_begin (c_X3_begin (d - 1) (by omega) b I L np hnp hn10) rfl ⟨_, _, rfl⟩ rfl rfl (Nat.le_of_ble_eq_true rfl) (by omega) (n := 107) rfl ?_
                        show PW zm_X8_behind d 107 [(7, .int (f_X8_bytesRefusal I sh)), (6, .int 1), (5, .int 0), (0, .ref 0), (1, .int sh), (2, .int n), (3, .int one), (4, .int what)] [] SH ((m_X3_begin I np), L, z_R b) 0 0 _
                        have hP107 : z_H np sz (42 + 2 * sh.toNatClampNeg) (I (42 + 2 * sh.toNatClampNeg) 2).toNatClampNeg ((m_X3_begin I np)) := z_H_bg (by omega) hsz (hsl _ hj_sh.2).1
                        refine p_aload_n (z_dec zd_X8_behind 53 rfl) rfl 3 rfl (n := 108) rfl ?_
                        refine q_getR (z_dec zd_X8_behind 54 rfl) zf_X8_33 (i := 18) rfl rfl (n := 111) rfl ?_
                        refine p_iload_n (z_dec zd_X8_behind 55 rfl) rfl 5 rfl (n := 112) rfl ?_
                        refine p_aload_n (z_dec zd_X8_behind 56 rfl) rfl 3 rfl (n := 113) rfl ?_
                        refine q_getR (z_dec zd_X8_behind 57 rfl) zf_X8_67 (i := 41) rfl rfl (n := 116) rfl ?_
                        refine p_iload_n (z_dec zd_X8_behind 58 rfl) rfl 4 rfl (n := 117) rfl ?_
                        refine q_aald (z_dec zd_X8_behind 59 rfl) rfl (by decide) (sh.toNatClampNeg) hj_sh.1 hj_sh.2 (a := (42 + 2 * sh.toNatClampNeg)) (if_pos hj_sh.2) (n := 118) rfl ?_
                        refine p_aload_n (z_dec zd_X8_behind 60 rfl) rfl 3 rfl (n := 119) rfl ?_
                        refine q_getR (z_dec zd_X8_behind 61 rfl) zf_X8_26 (i := 13) rfl rfl (n := 122) rfl ?_
                        refine p_iconst (z_dec zd_X8_behind 62 rfl) (v := 0) (by decide) (n := 123) rfl ?_
                        refine q_callV (As := [.int (nI n.toNatClampNeg), .ref (42 + 2 * sh.toNatClampNeg), .ref 13, .int 0]) (rest := []) (z_dec zd_X8_behind 63 rfl) zk_X8_160 zv_X3_goThrough (c_X3_goThrough (d - 1) (by omega) b (m_X3_begin I np) L (42 + 2 * sh.toNatClampNeg) (z_SfOf b _ hj_sh.2) (by omega) np hn10 sz hs121 (I (42 + 2 * sh.toNatClampNeg) 2).toNatClampNeg (hsl _ hj_sh.2).2 hP107 n.toNatClampNeg (by omega) 0) rfl ⟨_, _, rfl⟩ (by simp only [← hn20.1]; rfl) rfl (Nat.le_of_ble_eq_true rfl) (by omega) (n := 126) rfl ?_
                        show PW zm_X8_behind d 126 [(7, .int (f_X8_bytesRefusal I sh)), (6, .int 1), (5, .int 0), (0, .ref 0), (1, .int sh), (2, .int n), (3, .int one), (4, .int what)] [] SH ((m_X3_goThrough b (m_X3_begin I np) L (42 + 2 * sh.toNatClampNeg) np sz (I (42 + 2 * sh.toNatClampNeg) 2).toNatClampNeg n.toNatClampNeg 0), L, z_R b) 0 0 _
                        have hP126 : z_H np sz (42 + 2 * sh.toNatClampNeg) (I (42 + 2 * sh.toNatClampNeg) 2).toNatClampNeg ((m_X3_goThrough b (m_X3_begin I np) L (42 + 2 * sh.toNatClampNeg) np sz (I (42 + 2 * sh.toNatClampNeg) 2).toNatClampNeg n.toNatClampNeg 0)) := z_H_gt (by omega) b L _ _ hP107
                        refine p_iload (z_dec zd_X8_behind 64 rfl) 7 rfl (n := 128) rfl ?_
                        by_cases hs128_0 : what = 0
                        · refine p_tableIn (z_dec zd_X8_behind 65 rfl) (off := 28) (t := 156) (by rw [hs128_0]; decide) (by rw [hs128_0]; decide) (by rw [hs128_0]; rfl) (by decide) ?_
                          refine p_aload_n (z_dec zd_X8_behind 66 rfl) rfl 3 rfl (n := 157) rfl ?_
                          refine q_getR (z_dec zd_X8_behind 67 rfl) zf_X8_33 (i := 18) rfl rfl (n := 160) rfl ?_
                          refine q_getR (z_dec zd_X8_behind 68 rfl) zf_X8_164 (i := 19) rfl rfl (n := 163) rfl ?_
                          refine q_getR (z_dec zd_X8_behind 69 rfl) zf_X8_165 (i := 22) rfl rfl (n := 166) rfl ?_
                          refine p_iload_n (z_dec zd_X8_behind 70 rfl) rfl 6 rfl (n := 167) rfl ?_
                          refine q_iald (z_dec zd_X8_behind 71 rfl) rfl (by decide) (0) h76 (by decide) (v := ((m_X3_goThrough b (m_X3_begin I np) L (42 + 2 * sh.toNatClampNeg) np sz (I (42 + 2 * sh.toNatClampNeg) 2).toNatClampNeg n.toNatClampNeg 0) 22 0)) rfl (n := 168) rfl ?_
                          exact p_iret (z_dec zd_X8_behind 72 rfl) rfl ⟨(by unfold f_X8_behind; rw [if_neg h2, if_neg h8, if_pos h21, if_neg h41, if_neg h45, if_neg h51, if_pos h76, if_pos h90, if_pos hs128_0]), rfl, (z_3 (by unfold m_X8_behind; rw [if_neg h2, if_neg h8, if_pos h21, if_neg h41, if_neg h45, if_neg h51, if_pos h76, if_pos h90, if_pos hs128_0]) rfl)⟩
                        by_cases hs128_1 : what = 1
                        · refine p_tableIn (z_dec zd_X8_behind 65 rfl) (off := 41) (t := 169) (by rw [hs128_1]; decide) (by rw [hs128_1]; decide) (by rw [hs128_1]; rfl) (by decide) ?_
                          refine p_aload_n (z_dec zd_X8_behind 73 rfl) rfl 3 rfl (n := 170) rfl ?_
                          refine q_getR (z_dec zd_X8_behind 74 rfl) zf_X8_33 (i := 18) rfl rfl (n := 173) rfl ?_
                          refine q_getR (z_dec zd_X8_behind 75 rfl) zf_X8_164 (i := 19) rfl rfl (n := 176) rfl ?_
                          refine q_getR (z_dec zd_X8_behind 76 rfl) zf_X8_169 (i := 21) rfl rfl (n := 179) rfl ?_
                          refine p_iload_n (z_dec zd_X8_behind 77 rfl) rfl 6 rfl (n := 180) rfl ?_
                          refine q_iald (z_dec zd_X8_behind 78 rfl) rfl (by decide) (0) h76 (by decide) (v := ((m_X3_goThrough b (m_X3_begin I np) L (42 + 2 * sh.toNatClampNeg) np sz (I (42 + 2 * sh.toNatClampNeg) 2).toNatClampNeg n.toNatClampNeg 0) 21 0)) rfl (n := 181) rfl ?_
                          exact p_iret (z_dec zd_X8_behind 79 rfl) rfl ⟨(by unfold f_X8_behind; rw [if_neg h2, if_neg h8, if_pos h21, if_neg h41, if_neg h45, if_neg h51, if_pos h76, if_pos h90, if_neg hs128_0, if_pos hs128_1]), rfl, (z_3 (by unfold m_X8_behind; rw [if_neg h2, if_neg h8, if_pos h21, if_neg h41, if_neg h45, if_neg h51, if_pos h76, if_pos h90, if_neg hs128_0, if_pos hs128_1]) rfl)⟩
                        by_cases hs128_2 : what = 2
                        · refine p_tableIn (z_dec zd_X8_behind 65 rfl) (off := 54) (t := 182) (by rw [hs128_2]; decide) (by rw [hs128_2]; decide) (by rw [hs128_2]; rfl) (by decide) ?_
                          refine p_aload_n (z_dec zd_X8_behind 80 rfl) rfl 3 rfl (n := 183) rfl ?_
                          refine q_getR (z_dec zd_X8_behind 81 rfl) zf_X8_33 (i := 18) rfl rfl (n := 186) rfl ?_
                          refine q_getR (z_dec zd_X8_behind 82 rfl) zf_X8_164 (i := 19) rfl rfl (n := 189) rfl ?_
                          refine q_callV (As := []) (rest := []) (z_dec zd_X8_behind 83 rfl) zk_X8_130 zv_X7_judgeBits (c_X7_judgeBits (d - 1) (by omega) b (m_X3_goThrough b (m_X3_begin I np) L (42 + 2 * sh.toNatClampNeg) np sz (I (42 + 2 * sh.toNatClampNeg) 2).toNatClampNeg n.toNatClampNeg 0) L 19 (z_Yd19 b) np hP126.1 hn10) rfl ⟨_, _, rfl⟩ rfl rfl (Nat.le_of_ble_eq_true rfl) (by omega) (n := 192) rfl ?_
                          show PW zm_X8_behind d 192 [(7, .int (f_X8_bytesRefusal I sh)), (6, .int 1), (5, .int 0), (0, .ref 0), (1, .int sh), (2, .int n), (3, .int one), (4, .int what)] [.int (f_X7_judgeBits (m_X3_goThrough b (m_X3_begin I np) L (42 + 2 * sh.toNatClampNeg) np sz (I (42 + 2 * sh.toNatClampNeg) 2).toNatClampNeg n.toNatClampNeg 0) 19 np)] SH ((m_X3_goThrough b (m_X3_begin I np) L (42 + 2 * sh.toNatClampNeg) np sz (I (42 + 2 * sh.toNatClampNeg) 2).toNatClampNeg n.toNatClampNeg 0), L, z_R b) 0 0 _
                          exact p_iret (z_dec zd_X8_behind 84 rfl) rfl ⟨(by unfold f_X8_behind; rw [if_neg h2, if_neg h8, if_pos h21, if_neg h41, if_neg h45, if_neg h51, if_pos h76, if_pos h90, if_neg hs128_0, if_neg hs128_1, if_pos hs128_2]), rfl, (z_3 (by unfold m_X8_behind; rw [if_neg h2, if_neg h8, if_pos h21, if_neg h41, if_neg h45, if_neg h51, if_pos h76, if_pos h90, if_neg hs128_0, if_neg hs128_1, if_pos hs128_2]) rfl)⟩
                        have hs128_0n : ¬ what.toInt = 0 := lv_neT hs128_0 rfl
                        have hs128_1n : ¬ what.toInt = 1 := lv_neT hs128_1 rfl
                        have hs128_2n : ¬ what.toInt = 2 := lv_neT hs128_2 rfl
                        refine p_tableOut (z_dec zd_X8_behind 65 rfl) (t := 193) (by omega) (by decide) ?_
                        refine p_aload_n (z_dec zd_X8_behind 85 rfl) rfl 3 rfl (n := 194) rfl ?_
                        refine q_getR (z_dec zd_X8_behind 86 rfl) zf_X8_33 (i := 18) rfl rfl (n := 197) rfl ?_
                        refine q_getI (z_dec zd_X8_behind 87 rfl) zf_X8_154 (by decide) rfl (v := ((m_X3_goThrough b (m_X3_begin I np) L (42 + 2 * sh.toNatClampNeg) np sz (I (42 + 2 * sh.toNatClampNeg) 2).toNatClampNeg n.toNatClampNeg 0) 18 2)) rfl (n := 200) rfl ?_
                        exact p_iret (z_dec zd_X8_behind 88 rfl) rfl ⟨(by unfold f_X8_behind; rw [if_neg h2, if_neg h8, if_pos h21, if_neg h41, if_neg h45, if_neg h51, if_pos h76, if_pos h90, if_neg hs128_0, if_neg hs128_1, if_neg hs128_2]), rfl, (z_3 (by unfold m_X8_behind; rw [if_neg h2, if_neg h8, if_pos h21, if_neg h41, if_neg h45, if_neg h51, if_pos h76, if_pos h90, if_neg hs128_0, if_neg hs128_1, if_neg hs128_2]) rfl)⟩
                      · refine p_iload (z_dec zd_X8_behind 46 rfl) 0 rfl (n := 95) rfl ?_
                        exact p_iret (z_dec zd_X8_behind 47 rfl) rfl ⟨(by unfold f_X8_behind; rw [if_neg h2, if_neg h8, if_pos h21, if_neg h41, if_neg h45, if_neg h51, if_pos h76, if_neg h90]), rfl, (z_3 (by unfold m_X8_behind; rw [if_neg h2, if_neg h8, if_pos h21, if_neg h41, if_neg h45, if_neg h51, if_pos h76, if_neg h90]) rfl)⟩
                    · refine p_iconst (z_dec zd_X8_behind 38 rfl) (v := (-1)) (by decide) (n := 80) rfl ?_
                      exact p_iret (z_dec zd_X8_behind 39 rfl) rfl ⟨(by unfold f_X8_behind; rw [if_neg h2, if_neg h8, if_pos h21, if_neg h41, if_neg h45, if_neg h51, if_neg h76]), rfl, (z_3 (by unfold m_X8_behind; rw [if_neg h2, if_neg h8, if_pos h21, if_neg h41, if_neg h45, if_neg h51, if_neg h76]) rfl)⟩
                · exact absurd h56 (by decide)
        · refine p_iload (z_dec zd_X8_behind 12 rfl) 5 rfl (n := 26) rfl ?_
          refine p_iconst (z_dec zd_X8_behind 13 rfl) (v := 3) (by decide) (n := 27) rfl ?_
          refine p_icmp_ne (z_dec zd_X8_behind 14 rfl) (t := 34) (by decide) (n := 30) rfl (fun h27 => ?_) (fun h27 => ?_)
          · refine p_iconst (z_dec zd_X8_behind 17 rfl) (v := 0) (by decide) (n := 35) rfl ?_
            refine p_istore (z_dec zd_X8_behind 18 rfl) (lv2 := [(6, .int 0), (5, .int 0), (0, .ref 0), (1, .int sh), (2, .int n), (3, .int one), (4, .int what)]) (by decide) rfl (n := 37) rfl ?_
            refine p_iload_n (z_dec zd_X8_behind 19 rfl) rfl 3 rfl (n := 38) rfl ?_
            refine q_callS (As := [.int sh]) (rest := []) (z_dec zd_X8_behind 20 rfl) zk_X8_80 zs_X8_isShelf (c_X8_isShelf (d - 1) (by omega) b I L sh) rfl rfl (Nat.le_of_ble_eq_true rfl) (by omega) (n := 41) rfl ?_
            show PW zm_X8_behind d 41 [(6, .int 0), (5, .int 0), (0, .ref 0), (1, .int sh), (2, .int n), (3, .int one), (4, .int what)] [.int (f_X8_isShelf sh)] SH (I, L, z_R b) 0 0 _
            refine p_if_eq (z_dec zd_X8_behind 21 rfl) (t := 79) (by decide) (n := 44) rfl (fun h41 => ?_) (fun h41 => ?_)
            · refine p_iconst (z_dec zd_X8_behind 38 rfl) (v := (-1)) (by decide) (n := 80) rfl ?_
              exact p_iret (z_dec zd_X8_behind 39 rfl) rfl ⟨(by unfold f_X8_behind; rw [if_neg h2, if_neg h8, if_neg h21, if_neg h27, if_pos h41]), rfl, (z_3 (by unfold m_X8_behind; rw [if_neg h2, if_neg h8, if_neg h21, if_neg h27, if_pos h41]) rfl)⟩
            · have hj_sh := z_shc h41
              refine p_iload_n (z_dec zd_X8_behind 22 rfl) rfl 4 rfl (n := 45) rfl ?_
              refine p_if_lt (z_dec zd_X8_behind 23 rfl) (t := 79) (by decide) (n := 48) rfl (fun h45 => ?_) (fun h45 => ?_)
              · refine p_iconst (z_dec zd_X8_behind 38 rfl) (v := (-1)) (by decide) (n := 80) rfl ?_
                exact p_iret (z_dec zd_X8_behind 39 rfl) rfl ⟨(by unfold f_X8_behind; rw [if_neg h2, if_neg h8, if_neg h21, if_neg h27, if_neg h41, if_pos h45]), rfl, (z_3 (by unfold m_X8_behind; rw [if_neg h2, if_neg h8, if_neg h21, if_neg h27, if_neg h41, if_pos h45]) rfl)⟩
              · refine p_iload_n (z_dec zd_X8_behind 24 rfl) rfl 4 rfl (n := 49) rfl ?_
                refine p_bipush (z_dec zd_X8_behind 25 rfl) (v := 20) (by decide) (n := 51) rfl ?_
                refine p_icmp_gt (z_dec zd_X8_behind 26 rfl) (t := 79) (by decide) (n := 54) rfl (fun h51 => ?_) (fun h51 => ?_)
                · refine p_iconst (z_dec zd_X8_behind 38 rfl) (v := (-1)) (by decide) (n := 80) rfl ?_
                  exact p_iret (z_dec zd_X8_behind 39 rfl) rfl ⟨(by unfold f_X8_behind; rw [if_neg h2, if_neg h8, if_neg h21, if_neg h27, if_neg h41, if_neg h45, if_pos h51]), rfl, (z_3 (by unfold m_X8_behind; rw [if_neg h2, if_neg h8, if_neg h21, if_neg h27, if_neg h41, if_neg h45, if_pos h51]) rfl)⟩
                · have hn20 := z_in20 h45 h51
                  refine p_iload (z_dec zd_X8_behind 27 rfl) 1 rfl (n := 56) rfl ?_
                  refine p_if_eq (z_dec zd_X8_behind 28 rfl) (t := 70) (by decide) (n := 59) rfl (fun h56 => ?_) (fun h56 => ?_)
                  · refine p_iload (z_dec zd_X8_behind 34 rfl) 0 rfl (n := 72) rfl ?_
                    refine p_if_eq (z_dec zd_X8_behind 35 rfl) (t := 79) (by decide) (n := 75) rfl (fun h72 => ?_) (fun h72 => ?_)
                    · refine p_iconst (z_dec zd_X8_behind 38 rfl) (v := (-1)) (by decide) (n := 80) rfl ?_
                      exact p_iret (z_dec zd_X8_behind 39 rfl) rfl ⟨(by unfold f_X8_behind; rw [if_neg h2, if_neg h8, if_neg h21, if_neg h27, if_neg h41, if_neg h45, if_neg h51]), rfl, (z_3 (by unfold m_X8_behind; rw [if_neg h2, if_neg h8, if_neg h21, if_neg h27, if_neg h41, if_neg h45, if_neg h51]) rfl)⟩
                    · exact absurd h72 (by decide)
                  · exact absurd h56 (by decide)
          · refine p_iconst (z_dec zd_X8_behind 15 rfl) (v := 1) (by decide) (n := 31) rfl ?_
            refine p_goto (z_dec zd_X8_behind 16 rfl) (t := 35) (by decide) ?_
            refine p_istore (z_dec zd_X8_behind 18 rfl) (lv2 := [(6, .int 1), (5, .int 0), (0, .ref 0), (1, .int sh), (2, .int n), (3, .int one), (4, .int what)]) (by decide) rfl (n := 37) rfl ?_
            refine p_iload_n (z_dec zd_X8_behind 19 rfl) rfl 3 rfl (n := 38) rfl ?_
            refine q_callS (As := [.int sh]) (rest := []) (z_dec zd_X8_behind 20 rfl) zk_X8_80 zs_X8_isShelf (c_X8_isShelf (d - 1) (by omega) b I L sh) rfl rfl (Nat.le_of_ble_eq_true rfl) (by omega) (n := 41) rfl ?_
            show PW zm_X8_behind d 41 [(6, .int 1), (5, .int 0), (0, .ref 0), (1, .int sh), (2, .int n), (3, .int one), (4, .int what)] [.int (f_X8_isShelf sh)] SH (I, L, z_R b) 0 0 _
            refine p_if_eq (z_dec zd_X8_behind 21 rfl) (t := 79) (by decide) (n := 44) rfl (fun h41 => ?_) (fun h41 => ?_)
            · refine p_iconst (z_dec zd_X8_behind 38 rfl) (v := (-1)) (by decide) (n := 80) rfl ?_
              exact p_iret (z_dec zd_X8_behind 39 rfl) rfl ⟨(by unfold f_X8_behind; rw [if_neg h2, if_neg h8, if_neg h21, if_pos h27, if_pos h41]), rfl, (z_3 (by unfold m_X8_behind; rw [if_neg h2, if_neg h8, if_neg h21, if_pos h27, if_pos h41]) rfl)⟩
            · have hj_sh := z_shc h41
              refine p_iload_n (z_dec zd_X8_behind 22 rfl) rfl 4 rfl (n := 45) rfl ?_
              refine p_if_lt (z_dec zd_X8_behind 23 rfl) (t := 79) (by decide) (n := 48) rfl (fun h45 => ?_) (fun h45 => ?_)
              · refine p_iconst (z_dec zd_X8_behind 38 rfl) (v := (-1)) (by decide) (n := 80) rfl ?_
                exact p_iret (z_dec zd_X8_behind 39 rfl) rfl ⟨(by unfold f_X8_behind; rw [if_neg h2, if_neg h8, if_neg h21, if_pos h27, if_neg h41, if_pos h45]), rfl, (z_3 (by unfold m_X8_behind; rw [if_neg h2, if_neg h8, if_neg h21, if_pos h27, if_neg h41, if_pos h45]) rfl)⟩
              · refine p_iload_n (z_dec zd_X8_behind 24 rfl) rfl 4 rfl (n := 49) rfl ?_
                refine p_bipush (z_dec zd_X8_behind 25 rfl) (v := 20) (by decide) (n := 51) rfl ?_
                refine p_icmp_gt (z_dec zd_X8_behind 26 rfl) (t := 79) (by decide) (n := 54) rfl (fun h51 => ?_) (fun h51 => ?_)
                · refine p_iconst (z_dec zd_X8_behind 38 rfl) (v := (-1)) (by decide) (n := 80) rfl ?_
                  exact p_iret (z_dec zd_X8_behind 39 rfl) rfl ⟨(by unfold f_X8_behind; rw [if_neg h2, if_neg h8, if_neg h21, if_pos h27, if_neg h41, if_neg h45, if_pos h51]), rfl, (z_3 (by unfold m_X8_behind; rw [if_neg h2, if_neg h8, if_neg h21, if_pos h27, if_neg h41, if_neg h45, if_pos h51]) rfl)⟩
                · have hn20 := z_in20 h45 h51
                  refine p_iload (z_dec zd_X8_behind 27 rfl) 1 rfl (n := 56) rfl ?_
                  refine p_if_eq (z_dec zd_X8_behind 28 rfl) (t := 70) (by decide) (n := 59) rfl (fun h56 => ?_) (fun h56 => ?_)
                  · refine p_iload (z_dec zd_X8_behind 34 rfl) 0 rfl (n := 72) rfl ?_
                    refine p_if_eq (z_dec zd_X8_behind 35 rfl) (t := 79) (by decide) (n := 75) rfl (fun h72 => ?_) (fun h72 => ?_)
                    · exact absurd h72 (by decide)
                    · refine p_iload_n (z_dec zd_X8_behind 36 rfl) rfl 5 rfl (n := 76) rfl ?_
                      refine p_if_eq (z_dec zd_X8_behind 37 rfl) (t := 81) (by decide) (n := 79) rfl (fun h76 => ?_) (fun h76 => ?_)
                      · refine p_aload_n (z_dec zd_X8_behind 40 rfl) rfl 2 rfl (n := 82) rfl ?_
                        refine p_iload_n (z_dec zd_X8_behind 41 rfl) rfl 3 rfl (n := 83) rfl ?_
                        refine q_callV (As := [.int sh]) (rest := []) (z_dec zd_X8_behind 42 rfl) zk_X8_142 zv_X8_bytesRefusal (c_X8_bytesRefusal (d - 1) (by omega) b I L sh) rfl ⟨_, _, rfl⟩ rfl rfl (Nat.le_of_ble_eq_true rfl) (by omega) (n := 86) rfl ?_
                        show PW zm_X8_behind d 86 [(6, .int 1), (5, .int 0), (0, .ref 0), (1, .int sh), (2, .int n), (3, .int one), (4, .int what)] [.int (f_X8_bytesRefusal I sh)] SH (I, L, z_R b) 0 0 _
                        refine p_istore (z_dec zd_X8_behind 43 rfl) (lv2 := [(7, .int (f_X8_bytesRefusal I sh)), (6, .int 1), (5, .int 0), (0, .ref 0), (1, .int sh), (2, .int n), (3, .int one), (4, .int what)]) (by decide) rfl (n := 88) rfl ?_
                        refine p_iload (z_dec zd_X8_behind 44 rfl) 0 rfl (n := 90) rfl ?_
                        refine p_if_eq (z_dec zd_X8_behind 45 rfl) (t := 96) (by decide) (n := 93) rfl (fun h90 => ?_) (fun h90 => ?_)
                        · refine p_aload_n (z_dec zd_X8_behind 48 rfl) rfl 3 rfl (n := 97) rfl ?_
                          refine q_getR (z_dec zd_X8_behind 49 rfl) zf_X8_33 (i := 18) rfl rfl (n := 100) rfl ?_
                          refine p_aload_n (z_dec zd_X8_behind 50 rfl) rfl 3 rfl (n := 101) rfl ?_
                          refine q_getR (z_dec zd_X8_behind 51 rfl) zf_X8_10 (i := 1) rfl rfl (n := 104) rfl ?_
                          refine q_callV (As := [.ref 1]) (rest := []) (z_dec zd_X8_behind 52 rfl) zk_X8_146 zv_X3_begin (c_X3_begin (d - 1) (by omega) b I L np hnp hn10) rfl ⟨_, _, rfl⟩ rfl rfl (Nat.le_of_ble_eq_true rfl) (by omega) (n := 107) rfl ?_
                          show PW zm_X8_behind d 107 [(7, .int (f_X8_bytesRefusal I sh)), (6, .int 1), (5, .int 0), (0, .ref 0), (1, .int sh), (2, .int n), (3, .int one), (4, .int what)] [] SH ((m_X3_begin I np), L, z_R b) 0 0 _
                          have hP107 : z_H np sz (42 + 2 * sh.toNatClampNeg) (I (42 + 2 * sh.toNatClampNeg) 2).toNatClampNeg ((m_X3_begin I np)) := z_H_bg (by omega) hsz (hsl _ hj_sh.2).1
                          refine p_aload_n (z_dec zd_X8_behind 53 rfl) rfl 3 rfl (n := 108) rfl ?_
                          refine q_getR (z_dec zd_X8_behind 54 rfl) zf_X8_33 (i := 18) rfl rfl (n := 111) rfl ?_
                          refine p_iload_n (z_dec zd_X8_behind 55 rfl) rfl 5 rfl (n := 112) rfl ?_
                          refine p_aload_n (z_dec zd_X8_behind 56 rfl) rfl 3 rfl (n := 113) rfl ?_
                          refine q_getR (z_dec zd_X8_behind 57 rfl) zf_X8_67 (i := 41) rfl rfl (n := 116) rfl ?_
                          refine p_iload_n (z_dec zd_X8_behind 58 rfl) rfl 4 rfl (n := 117) rfl ?_
                          refine q_aald (z_dec zd_X8_behind 59 rfl) rfl (by decide) (sh.toNatClampNeg) hj_sh.1 hj_sh.2 (a := (42 + 2 * sh.toNatClampNeg)) (if_pos hj_sh.2) (n := 118) rfl ?_
                          refine p_aload_n (z_dec zd_X8_behind 60 rfl) rfl 3 rfl (n := 119) rfl ?_
                          refine q_getR (z_dec zd_X8_behind 61 rfl) zf_X8_26 (i := 13) rfl rfl (n := 122) rfl ?_
                          refine p_iconst (z_dec zd_X8_behind 62 rfl) (v := 0) (by decide) (n := 123) rfl ?_
                          refine q_callV (As := [.int (nI n.toNatClampNeg), .ref (42 + 2 * sh.toNatClampNeg), .ref 13, .int 0]) (rest := []) (z_dec zd_X8_behind 63 rfl) zk_X8_160 zv_X3_goThrough (c_X3_goThrough (d - 1) (by omega) b (m_X3_begin I np) L (42 + 2 * sh.toNatClampNeg) (z_SfOf b _ hj_sh.2) (by omega) np hn10 sz hs121 (I (42 + 2 * sh.toNatClampNeg) 2).toNatClampNeg (hsl _ hj_sh.2).2 hP107 n.toNatClampNeg (by omega) 0) rfl ⟨_, _, rfl⟩ (by simp only [← hn20.1]; rfl) rfl (Nat.le_of_ble_eq_true rfl) (by omega) (n := 126) rfl ?_
                          show PW zm_X8_behind d 126 [(7, .int (f_X8_bytesRefusal I sh)), (6, .int 1), (5, .int 0), (0, .ref 0), (1, .int sh), (2, .int n), (3, .int one), (4, .int what)] [] SH ((m_X3_goThrough b (m_X3_begin I np) L (42 + 2 * sh.toNatClampNeg) np sz (I (42 + 2 * sh.toNatClampNeg) 2).toNatClampNeg n.toNatClampNeg 0), L, z_R b) 0 0 _
                          have hP126 : z_H np sz (42 + 2 * sh.toNatClampNeg) (I (42 + 2 * sh.toNatClampNeg) 2).toNatClampNeg ((m_X3_goThrough b (m_X3_begin I np) L (42 + 2 * sh.toNatClampNeg) np sz (I (42 + 2 * sh.toNatClampNeg) 2).toNatClampNeg n.toNatClampNeg 0)) := z_H_gt (by omega) b L _ _ hP107
                          refine p_iload (z_dec zd_X8_behind 64 rfl) 7 rfl (n := 128) rfl ?_
                          by_cases hs128_0 : what = 0
                          · refine p_tableIn (z_dec zd_X8_behind 65 rfl) (off := 28) (t := 156) (by rw [hs128_0]; decide) (by rw [hs128_0]; decide) (by rw [hs128_0]; rfl) (by decide) ?_
                            refine p_aload_n (z_dec zd_X8_behind 66 rfl) rfl 3 rfl (n := 157) rfl ?_
                            refine q_getR (z_dec zd_X8_behind 67 rfl) zf_X8_33 (i := 18) rfl rfl (n := 160) rfl ?_
                            refine q_getR (z_dec zd_X8_behind 68 rfl) zf_X8_164 (i := 19) rfl rfl (n := 163) rfl ?_
                            refine q_getR (z_dec zd_X8_behind 69 rfl) zf_X8_165 (i := 22) rfl rfl (n := 166) rfl ?_
                            refine p_iload_n (z_dec zd_X8_behind 70 rfl) rfl 6 rfl (n := 167) rfl ?_
                            refine q_iald (z_dec zd_X8_behind 71 rfl) rfl (by decide) (0) h76 (by decide) (v := ((m_X3_goThrough b (m_X3_begin I np) L (42 + 2 * sh.toNatClampNeg) np sz (I (42 + 2 * sh.toNatClampNeg) 2).toNatClampNeg n.toNatClampNeg 0) 22 0)) rfl (n := 168) rfl ?_
                            exact p_iret (z_dec zd_X8_behind 72 rfl) rfl ⟨(by unfold f_X8_behind; rw [if_neg h2, if_neg h8, if_neg h21, if_pos h27, if_neg h41, if_neg h45, if_neg h51, if_pos h76, if_pos h90, if_pos hs128_0]), rfl, (z_3 (by unfold m_X8_behind; rw [if_neg h2, if_neg h8, if_neg h21, if_pos h27, if_neg h41, if_neg h45, if_neg h51, if_pos h76, if_pos h90, if_pos hs128_0]) rfl)⟩
                          by_cases hs128_1 : what = 1
                          · refine p_tableIn (z_dec zd_X8_behind 65 rfl) (off := 41) (t := 169) (by rw [hs128_1]; decide) (by rw [hs128_1]; decide) (by rw [hs128_1]; rfl) (by decide) ?_
                            refine p_aload_n (z_dec zd_X8_behind 73 rfl) rfl 3 rfl (n := 170) rfl ?_
                            refine q_getR (z_dec zd_X8_behind 74 rfl) zf_X8_33 (i := 18) rfl rfl (n := 173) rfl ?_
                            refine q_getR (z_dec zd_X8_behind 75 rfl) zf_X8_164 (i := 19) rfl rfl (n := 176) rfl ?_
                            refine q_getR (z_dec zd_X8_behind 76 rfl) zf_X8_169 (i := 21) rfl rfl (n := 179) rfl ?_
                            refine p_iload_n (z_dec zd_X8_behind 77 rfl) rfl 6 rfl (n := 180) rfl ?_
                            refine q_iald (z_dec zd_X8_behind 78 rfl) rfl (by decide) (0) h76 (by decide) (v := ((m_X3_goThrough b (m_X3_begin I np) L (42 + 2 * sh.toNatClampNeg) np sz (I (42 + 2 * sh.toNatClampNeg) 2).toNatClampNeg n.toNatClampNeg 0) 21 0)) rfl (n := 181) rfl ?_
                            exact p_iret (z_dec zd_X8_behind 79 rfl) rfl ⟨(by unfold f_X8_behind; rw [if_neg h2, if_neg h8, if_neg h21, if_pos h27, if_neg h41, if_neg h45, if_neg h51, if_pos h76, if_pos h90, if_neg hs128_0, if_pos hs128_1]), rfl, (z_3 (by unfold m_X8_behind; rw [if_neg h2, if_neg h8, if_neg h21, if_pos h27, if_neg h41, if_neg h45, if_neg h51, if_pos h76, if_pos h90, if_neg hs128_0, if_pos hs128_1]) rfl)⟩
                          by_cases hs128_2 : what = 2
                          · refine p_tableIn (z_dec zd_X8_behind 65 rfl) (off := 54) (t := 182) (by rw [hs128_2]; decide) (by rw [hs128_2]; decide) (by rw [hs128_2]; rfl) (by decide) ?_
                            refine p_aload_n (z_dec zd_X8_behind 80 rfl) rfl 3 rfl (n := 183) rfl ?_
                            refine q_getR (z_dec zd_X8_behind 81 rfl) zf_X8_33 (i := 18) rfl rfl (n := 186) rfl ?_
                            refine q_getR (z_dec zd_X8_behind 82 rfl) zf_X8_164 (i := 19) rfl rfl (n := 189) rfl ?_
                            refine q_callV (As := []) (rest := []) (z_dec zd_X8_behind 83 rfl) zk_X8_130 zv_X7_judgeBits (c_X7_judgeBits (d - 1) (by omega) b (m_X3_goThrough b (m_X3_begin I np) L (42 + 2 * sh.toNatClampNeg) np sz (I (42 + 2 * sh.toNatClampNeg) 2).toNatClampNeg n.toNatClampNeg 0) L 19 (z_Yd19 b) np hP126.1 hn10) rfl ⟨_, _, rfl⟩ rfl rfl (Nat.le_of_ble_eq_true rfl) (by omega) (n := 192) rfl ?_
                            show PW zm_X8_behind d 192 [(7, .int (f_X8_bytesRefusal I sh)), (6, .int 1), (5, .int 0), (0, .ref 0), (1, .int sh), (2, .int n), (3, .int one), (4, .int what)] [.int (f_X7_judgeBits (m_X3_goThrough b (m_X3_begin I np) L (42 + 2 * sh.toNatClampNeg) np sz (I (42 + 2 * sh.toNatClampNeg) 2).toNatClampNeg n.toNatClampNeg 0) 19 np)] SH ((m_X3_goThrough b (m_X3_begin I np) L (42 + 2 * sh.toNatClampNeg) np sz (I (42 + 2 * sh.toNatClampNeg) 2).toNatClampNeg n.toNatClampNeg 0), L, z_R b) 0 0 _
                            exact p_iret (z_dec zd_X8_behind 84 rfl) rfl ⟨(by unfold f_X8_behind; rw [if_neg h2, if_neg h8, if_neg h21, if_pos h27, if_neg h41, if_neg h45, if_neg h51, if_pos h76, if_pos h90, if_neg hs128_0, if_neg hs128_1, if_pos hs128_2]), rfl, (z_3 (by unfold m_X8_behind; rw [if_neg h2, if_neg h8, if_neg h21, if_pos h27, if_neg h41, if_neg h45, if_neg h51, if_pos h76, if_pos h90, if_neg hs128_0, if_neg hs128_1, if_pos hs128_2]) rfl)⟩
                          have hs128_0n : ¬ what.toInt = 0 := lv_neT hs128_0 rfl
                          have hs128_1n : ¬ what.toInt = 1 := lv_neT hs128_1 rfl
                          have hs128_2n : ¬ what.toInt = 2 := lv_neT hs128_2 rfl
                          refine p_tableOut (z_dec zd_X8_behind 65 rfl) (t := 193) (by omega) (by decide) ?_
                          refine p_aload_n (z_dec zd_X8_behind 85 rfl) rfl 3 rfl (n := 194) rfl ?_
                          refine q_getR (z_dec zd_X8_behind 86 rfl) zf_X8_33 (i := 18) rfl rfl (n := 197) rfl ?_
                          refine q_getI (z_dec zd_X8_behind 87 rfl) zf_X8_154 (by decide) rfl (v := ((m_X3_goThrough b (m_X3_begin I np) L (42 + 2 * sh.toNatClampNeg) np sz (I (42 + 2 * sh.toNatClampNeg) 2).toNatClampNeg n.toNatClampNeg 0) 18 2)) rfl (n := 200) rfl ?_
                          exact p_iret (z_dec zd_X8_behind 88 rfl) rfl ⟨(by unfold f_X8_behind; rw [if_neg h2, if_neg h8, if_neg h21, if_pos h27, if_neg h41, if_neg h45, if_neg h51, if_pos h76, if_pos h90, if_neg hs128_0, if_neg hs128_1, if_neg hs128_2]), rfl, (z_3 (by unfold m_X8_behind; rw [if_neg h2, if_neg h8, if_neg h21, if_pos h27, if_neg h41, if_neg h45, if_neg h51, if_pos h76, if_pos h90, if_neg hs128_0, if_neg hs128_1, if_neg hs128_2]) rfl)⟩
                        · refine p_iload (z_dec zd_X8_behind 46 rfl) 0 rfl (n := 95) rfl ?_
                          exact p_iret (z_dec zd_X8_behind 47 rfl) rfl ⟨(by unfold f_X8_behind; rw [if_neg h2, if_neg h8, if_neg h21, if_pos h27, if_neg h41, if_neg h45, if_neg h51, if_pos h76, if_neg h90]), rfl, (z_3 (by unfold m_X8_behind; rw [if_neg h2, if_neg h8, if_neg h21, if_pos h27, if_neg h41, if_neg h45, if_neg h51, if_pos h76, if_neg h90]) rfl)⟩
                      · refine p_iconst (z_dec zd_X8_behind 38 rfl) (v := (-1)) (by decide) (n := 80) rfl ?_
                        exact p_iret (z_dec zd_X8_behind 39 rfl) rfl ⟨(by unfold f_X8_behind; rw [if_neg h2, if_neg h8, if_neg h21, if_pos h27, if_neg h41, if_neg h45, if_neg h51, if_neg h76]), rfl, (z_3 (by unfold m_X8_behind; rw [if_neg h2, if_neg h8, if_neg h21, if_pos h27, if_neg h41, if_neg h45, if_neg h51, if_neg h76]) rfl)⟩
                  · exact absurd h56 (by decide)
      · refine p_iconst (z_dec zd_X8_behind 5 rfl) (v := 1) (by decide) (n := 12) rfl ?_
        refine p_goto (z_dec zd_X8_behind 6 rfl) (t := 16) (by decide) ?_
        refine p_istore (z_dec zd_X8_behind 8 rfl) (lv2 := [(5, .int 1), (0, .ref 0), (1, .int sh), (2, .int n), (3, .int one), (4, .int what)]) (by decide) rfl (n := 18) rfl ?_
        refine p_iload (z_dec zd_X8_behind 9 rfl) 5 rfl (n := 20) rfl ?_
        refine p_iconst (z_dec zd_X8_behind 10 rfl) (v := 2) (by decide) (n := 21) rfl ?_
        refine p_icmp_eq (z_dec zd_X8_behind 11 rfl) (t := 30) (by decide) (n := 24) rfl (fun h21 => ?_) (fun h21 => ?_)
        · refine p_iconst (z_dec zd_X8_behind 15 rfl) (v := 1) (by decide) (n := 31) rfl ?_
          refine p_goto (z_dec zd_X8_behind 16 rfl) (t := 35) (by decide) ?_
          refine p_istore (z_dec zd_X8_behind 18 rfl) (lv2 := [(6, .int 1), (5, .int 1), (0, .ref 0), (1, .int sh), (2, .int n), (3, .int one), (4, .int what)]) (by decide) rfl (n := 37) rfl ?_
          refine p_iload_n (z_dec zd_X8_behind 19 rfl) rfl 3 rfl (n := 38) rfl ?_
          refine q_callS (As := [.int sh]) (rest := []) (z_dec zd_X8_behind 20 rfl) zk_X8_80 zs_X8_isShelf (c_X8_isShelf (d - 1) (by omega) b I L sh) rfl rfl (Nat.le_of_ble_eq_true rfl) (by omega) (n := 41) rfl ?_
          show PW zm_X8_behind d 41 [(6, .int 1), (5, .int 1), (0, .ref 0), (1, .int sh), (2, .int n), (3, .int one), (4, .int what)] [.int (f_X8_isShelf sh)] SH (I, L, z_R b) 0 0 _
          refine p_if_eq (z_dec zd_X8_behind 21 rfl) (t := 79) (by decide) (n := 44) rfl (fun h41 => ?_) (fun h41 => ?_)
          · refine p_iconst (z_dec zd_X8_behind 38 rfl) (v := (-1)) (by decide) (n := 80) rfl ?_
            exact p_iret (z_dec zd_X8_behind 39 rfl) rfl ⟨(by unfold f_X8_behind; rw [if_neg h2, if_pos h8, if_pos h21, if_pos h41]), rfl, (z_3 (by unfold m_X8_behind; rw [if_neg h2, if_pos h8, if_pos h21, if_pos h41]) rfl)⟩
          · have hj_sh := z_shc h41
            refine p_iload_n (z_dec zd_X8_behind 22 rfl) rfl 4 rfl (n := 45) rfl ?_
            refine p_if_lt (z_dec zd_X8_behind 23 rfl) (t := 79) (by decide) (n := 48) rfl (fun h45 => ?_) (fun h45 => ?_)
            · refine p_iconst (z_dec zd_X8_behind 38 rfl) (v := (-1)) (by decide) (n := 80) rfl ?_
              exact p_iret (z_dec zd_X8_behind 39 rfl) rfl ⟨(by unfold f_X8_behind; rw [if_neg h2, if_pos h8, if_pos h21, if_neg h41, if_pos h45]), rfl, (z_3 (by unfold m_X8_behind; rw [if_neg h2, if_pos h8, if_pos h21, if_neg h41, if_pos h45]) rfl)⟩
            · refine p_iload_n (z_dec zd_X8_behind 24 rfl) rfl 4 rfl (n := 49) rfl ?_
              refine p_bipush (z_dec zd_X8_behind 25 rfl) (v := 20) (by decide) (n := 51) rfl ?_
              refine p_icmp_gt (z_dec zd_X8_behind 26 rfl) (t := 79) (by decide) (n := 54) rfl (fun h51 => ?_) (fun h51 => ?_)
              · refine p_iconst (z_dec zd_X8_behind 38 rfl) (v := (-1)) (by decide) (n := 80) rfl ?_
                exact p_iret (z_dec zd_X8_behind 39 rfl) rfl ⟨(by unfold f_X8_behind; rw [if_neg h2, if_pos h8, if_pos h21, if_neg h41, if_neg h45, if_pos h51]), rfl, (z_3 (by unfold m_X8_behind; rw [if_neg h2, if_pos h8, if_pos h21, if_neg h41, if_neg h45, if_pos h51]) rfl)⟩
              · have hn20 := z_in20 h45 h51
                refine p_iload (z_dec zd_X8_behind 27 rfl) 1 rfl (n := 56) rfl ?_
                refine p_if_eq (z_dec zd_X8_behind 28 rfl) (t := 70) (by decide) (n := 59) rfl (fun h56 => ?_) (fun h56 => ?_)
                · exact absurd h56 (by decide)
                · refine p_aload_n (z_dec zd_X8_behind 29 rfl) rfl 2 rfl (n := 60) rfl ?_
                  refine q_getR (z_dec zd_X8_behind 30 rfl) zf_X8_10 (i := 1) rfl rfl (n := 63) rfl ?_
                  refine p_iload_n (z_dec zd_X8_behind 31 rfl) rfl 5 rfl (n := 64) rfl ?_
                  refine q_callV (As := [.int one]) (rest := []) (z_dec zd_X8_behind 32 rfl) zk_X8_133 zv_X7_has (c_X7_has (d - 1) (by omega) b I L 1 (z_Yd1 b) one) rfl ⟨_, _, rfl⟩ rfl rfl (Nat.le_of_ble_eq_true rfl) (by omega) (n := 67) rfl ?_
                  show PW zm_X8_behind d 67 [(6, .int 1), (5, .int 1), (0, .ref 0), (1, .int sh), (2, .int n), (3, .int one), (4, .int what)] [.int (f_X7_has I 1 one)] SH (I, L, z_R b) 0 0 _
                  refine p_if_ne (z_dec zd_X8_behind 33 rfl) (t := 81) (by decide) (n := 70) rfl (fun h67 => ?_) (fun h67 => ?_)
                  · have hj := z_has hnp hn10 h67
                    refine p_aload_n (z_dec zd_X8_behind 40 rfl) rfl 2 rfl (n := 82) rfl ?_
                    refine p_iload_n (z_dec zd_X8_behind 41 rfl) rfl 3 rfl (n := 83) rfl ?_
                    refine q_callV (As := [.int sh]) (rest := []) (z_dec zd_X8_behind 42 rfl) zk_X8_142 zv_X8_bytesRefusal (c_X8_bytesRefusal (d - 1) (by omega) b I L sh) rfl ⟨_, _, rfl⟩ rfl rfl (Nat.le_of_ble_eq_true rfl) (by omega) (n := 86) rfl ?_
                    show PW zm_X8_behind d 86 [(6, .int 1), (5, .int 1), (0, .ref 0), (1, .int sh), (2, .int n), (3, .int one), (4, .int what)] [.int (f_X8_bytesRefusal I sh)] SH (I, L, z_R b) 0 0 _
                    refine p_istore (z_dec zd_X8_behind 43 rfl) (lv2 := [(7, .int (f_X8_bytesRefusal I sh)), (6, .int 1), (5, .int 1), (0, .ref 0), (1, .int sh), (2, .int n), (3, .int one), (4, .int what)]) (by decide) rfl (n := 88) rfl ?_
                    refine p_iload (z_dec zd_X8_behind 44 rfl) 0 rfl (n := 90) rfl ?_
                    refine p_if_eq (z_dec zd_X8_behind 45 rfl) (t := 96) (by decide) (n := 93) rfl (fun h90 => ?_) (fun h90 => ?_)
                    · refine p_aload_n (z_dec zd_X8_behind 48 rfl) rfl 3 rfl (n := 97) rfl ?_
                      refine q_getR (z_dec zd_X8_behind 49 rfl) zf_X8_33 (i := 18) rfl rfl (n := 100) rfl ?_
                      refine p_aload_n (z_dec zd_X8_behind 50 rfl) rfl 3 rfl (n := 101) rfl ?_
                      refine q_getR (z_dec zd_X8_behind 51 rfl) zf_X8_10 (i := 1) rfl rfl (n := 104) rfl ?_
                      refine q_callV (As := [.ref 1]) (rest := []) (z_dec zd_X8_behind 52 rfl) zk_X8_146 zv_X3_begin (c_X3_begin (d - 1) (by omega) b I L np hnp hn10) rfl ⟨_, _, rfl⟩ rfl rfl (Nat.le_of_ble_eq_true rfl) (by omega) (n := 107) rfl ?_
                      show PW zm_X8_behind d 107 [(7, .int (f_X8_bytesRefusal I sh)), (6, .int 1), (5, .int 1), (0, .ref 0), (1, .int sh), (2, .int n), (3, .int one), (4, .int what)] [] SH ((m_X3_begin I np), L, z_R b) 0 0 _
                      have hP107 : z_H np sz (42 + 2 * sh.toNatClampNeg) (I (42 + 2 * sh.toNatClampNeg) 2).toNatClampNeg ((m_X3_begin I np)) := z_H_bg (by omega) hsz (hsl _ hj_sh.2).1
                      refine p_aload_n (z_dec zd_X8_behind 53 rfl) rfl 3 rfl (n := 108) rfl ?_
                      refine q_getR (z_dec zd_X8_behind 54 rfl) zf_X8_33 (i := 18) rfl rfl (n := 111) rfl ?_
                      refine p_iload_n (z_dec zd_X8_behind 55 rfl) rfl 5 rfl (n := 112) rfl ?_
                      refine p_aload_n (z_dec zd_X8_behind 56 rfl) rfl 3 rfl (n := 113) rfl ?_
                      refine q_getR (z_dec zd_X8_behind 57 rfl) zf_X8_67 (i := 41) rfl rfl (n := 116) rfl ?_
                      refine p_iload_n (z_dec zd_X8_behind 58 rfl) rfl 4 rfl (n := 117) rfl ?_
                      refine q_aald (z_dec zd_X8_behind 59 rfl) rfl (by decide) (sh.toNatClampNeg) hj_sh.1 hj_sh.2 (a := (42 + 2 * sh.toNatClampNeg)) (if_pos hj_sh.2) (n := 118) rfl ?_
                      refine p_aload_n (z_dec zd_X8_behind 60 rfl) rfl 3 rfl (n := 119) rfl ?_
                      refine q_getR (z_dec zd_X8_behind 61 rfl) zf_X8_26 (i := 13) rfl rfl (n := 122) rfl ?_
                      refine p_iconst (z_dec zd_X8_behind 62 rfl) (v := 0) (by decide) (n := 123) rfl ?_
                      refine q_callV (As := [.int (nI n.toNatClampNeg), .ref (42 + 2 * sh.toNatClampNeg), .ref 13, .int 0]) (rest := []) (z_dec zd_X8_behind 63 rfl) zk_X8_160 zv_X3_goThrough (c_X3_goThrough (d - 1) (by omega) b (m_X3_begin I np) L (42 + 2 * sh.toNatClampNeg) (z_SfOf b _ hj_sh.2) (by omega) np hn10 sz hs121 (I (42 + 2 * sh.toNatClampNeg) 2).toNatClampNeg (hsl _ hj_sh.2).2 hP107 n.toNatClampNeg (by omega) 0) rfl ⟨_, _, rfl⟩ (by simp only [← hn20.1]; rfl) rfl (Nat.le_of_ble_eq_true rfl) (by omega) (n := 126) rfl ?_
                      show PW zm_X8_behind d 126 [(7, .int (f_X8_bytesRefusal I sh)), (6, .int 1), (5, .int 1), (0, .ref 0), (1, .int sh), (2, .int n), (3, .int one), (4, .int what)] [] SH ((m_X3_goThrough b (m_X3_begin I np) L (42 + 2 * sh.toNatClampNeg) np sz (I (42 + 2 * sh.toNatClampNeg) 2).toNatClampNeg n.toNatClampNeg 0), L, z_R b) 0 0 _
                      have hP126 : z_H np sz (42 + 2 * sh.toNatClampNeg) (I (42 + 2 * sh.toNatClampNeg) 2).toNatClampNeg ((m_X3_goThrough b (m_X3_begin I np) L (42 + 2 * sh.toNatClampNeg) np sz (I (42 + 2 * sh.toNatClampNeg) 2).toNatClampNeg n.toNatClampNeg 0)) := z_H_gt (by omega) b L _ _ hP107
                      refine p_iload (z_dec zd_X8_behind 64 rfl) 7 rfl (n := 128) rfl ?_
                      by_cases hs128_0 : what = 0
                      · refine p_tableIn (z_dec zd_X8_behind 65 rfl) (off := 28) (t := 156) (by rw [hs128_0]; decide) (by rw [hs128_0]; decide) (by rw [hs128_0]; rfl) (by decide) ?_
                        refine p_aload_n (z_dec zd_X8_behind 66 rfl) rfl 3 rfl (n := 157) rfl ?_
                        refine q_getR (z_dec zd_X8_behind 67 rfl) zf_X8_33 (i := 18) rfl rfl (n := 160) rfl ?_
                        refine q_getR (z_dec zd_X8_behind 68 rfl) zf_X8_164 (i := 19) rfl rfl (n := 163) rfl ?_
                        refine q_getR (z_dec zd_X8_behind 69 rfl) zf_X8_165 (i := 22) rfl rfl (n := 166) rfl ?_
                        refine p_iload_n (z_dec zd_X8_behind 70 rfl) rfl 6 rfl (n := 167) rfl ?_
                        refine q_iald (z_dec zd_X8_behind 71 rfl) rfl (by decide) (one.toNatClampNeg) hj.1 (Nat.lt_of_lt_of_le hj.2 hn10) (v := ((m_X3_goThrough b (m_X3_begin I np) L (42 + 2 * sh.toNatClampNeg) np sz (I (42 + 2 * sh.toNatClampNeg) 2).toNatClampNeg n.toNatClampNeg 0) 22 one.toNatClampNeg)) rfl (n := 168) rfl ?_
                        exact p_iret (z_dec zd_X8_behind 72 rfl) rfl ⟨(by unfold f_X8_behind; rw [if_neg h2, if_pos h8, if_pos h21, if_neg h41, if_neg h45, if_neg h51, if_neg h67, if_pos h90, if_pos hs128_0]), rfl, (z_3 (by unfold m_X8_behind; rw [if_neg h2, if_pos h8, if_pos h21, if_neg h41, if_neg h45, if_neg h51, if_neg h67, if_pos h90, if_pos hs128_0]) rfl)⟩
                      by_cases hs128_1 : what = 1
                      · refine p_tableIn (z_dec zd_X8_behind 65 rfl) (off := 41) (t := 169) (by rw [hs128_1]; decide) (by rw [hs128_1]; decide) (by rw [hs128_1]; rfl) (by decide) ?_
                        refine p_aload_n (z_dec zd_X8_behind 73 rfl) rfl 3 rfl (n := 170) rfl ?_
                        refine q_getR (z_dec zd_X8_behind 74 rfl) zf_X8_33 (i := 18) rfl rfl (n := 173) rfl ?_
                        refine q_getR (z_dec zd_X8_behind 75 rfl) zf_X8_164 (i := 19) rfl rfl (n := 176) rfl ?_
                        refine q_getR (z_dec zd_X8_behind 76 rfl) zf_X8_169 (i := 21) rfl rfl (n := 179) rfl ?_
                        refine p_iload_n (z_dec zd_X8_behind 77 rfl) rfl 6 rfl (n := 180) rfl ?_
                        refine q_iald (z_dec zd_X8_behind 78 rfl) rfl (by decide) (one.toNatClampNeg) hj.1 (Nat.lt_of_lt_of_le hj.2 hn10) (v := ((m_X3_goThrough b (m_X3_begin I np) L (42 + 2 * sh.toNatClampNeg) np sz (I (42 + 2 * sh.toNatClampNeg) 2).toNatClampNeg n.toNatClampNeg 0) 21 one.toNatClampNeg)) rfl (n := 181) rfl ?_
                        exact p_iret (z_dec zd_X8_behind 79 rfl) rfl ⟨(by unfold f_X8_behind; rw [if_neg h2, if_pos h8, if_pos h21, if_neg h41, if_neg h45, if_neg h51, if_neg h67, if_pos h90, if_neg hs128_0, if_pos hs128_1]), rfl, (z_3 (by unfold m_X8_behind; rw [if_neg h2, if_pos h8, if_pos h21, if_neg h41, if_neg h45, if_neg h51, if_neg h67, if_pos h90, if_neg hs128_0, if_pos hs128_1]) rfl)⟩
                      by_cases hs128_2 : what = 2
                      · refine p_tableIn (z_dec zd_X8_behind 65 rfl) (off := 54) (t := 182) (by rw [hs128_2]; decide) (by rw [hs128_2]; decide) (by rw [hs128_2]; rfl) (by decide) ?_
                        refine p_aload_n (z_dec zd_X8_behind 80 rfl) rfl 3 rfl (n := 183) rfl ?_
                        refine q_getR (z_dec zd_X8_behind 81 rfl) zf_X8_33 (i := 18) rfl rfl (n := 186) rfl ?_
                        refine q_getR (z_dec zd_X8_behind 82 rfl) zf_X8_164 (i := 19) rfl rfl (n := 189) rfl ?_
                        refine q_callV (As := []) (rest := []) (z_dec zd_X8_behind 83 rfl) zk_X8_130 zv_X7_judgeBits (c_X7_judgeBits (d - 1) (by omega) b (m_X3_goThrough b (m_X3_begin I np) L (42 + 2 * sh.toNatClampNeg) np sz (I (42 + 2 * sh.toNatClampNeg) 2).toNatClampNeg n.toNatClampNeg 0) L 19 (z_Yd19 b) np hP126.1 hn10) rfl ⟨_, _, rfl⟩ rfl rfl (Nat.le_of_ble_eq_true rfl) (by omega) (n := 192) rfl ?_
                        show PW zm_X8_behind d 192 [(7, .int (f_X8_bytesRefusal I sh)), (6, .int 1), (5, .int 1), (0, .ref 0), (1, .int sh), (2, .int n), (3, .int one), (4, .int what)] [.int (f_X7_judgeBits (m_X3_goThrough b (m_X3_begin I np) L (42 + 2 * sh.toNatClampNeg) np sz (I (42 + 2 * sh.toNatClampNeg) 2).toNatClampNeg n.toNatClampNeg 0) 19 np)] SH ((m_X3_goThrough b (m_X3_begin I np) L (42 + 2 * sh.toNatClampNeg) np sz (I (42 + 2 * sh.toNatClampNeg) 2).toNatClampNeg n.toNatClampNeg 0), L, z_R b) 0 0 _
                        exact p_iret (z_dec zd_X8_behind 84 rfl) rfl ⟨(by unfold f_X8_behind; rw [if_neg h2, if_pos h8, if_pos h21, if_neg h41, if_neg h45, if_neg h51, if_neg h67, if_pos h90, if_neg hs128_0, if_neg hs128_1, if_pos hs128_2]), rfl, (z_3 (by unfold m_X8_behind; rw [if_neg h2, if_pos h8, if_pos h21, if_neg h41, if_neg h45, if_neg h51, if_neg h67, if_pos h90, if_neg hs128_0, if_neg hs128_1, if_pos hs128_2]) rfl)⟩
                      have hs128_0n : ¬ what.toInt = 0 := lv_neT hs128_0 rfl
                      have hs128_1n : ¬ what.toInt = 1 := lv_neT hs128_1 rfl
                      have hs128_2n : ¬ what.toInt = 2 := lv_neT hs128_2 rfl
                      refine p_tableOut (z_dec zd_X8_behind 65 rfl) (t := 193) (by omega) (by decide) ?_
                      refine p_aload_n (z_dec zd_X8_behind 85 rfl) rfl 3 rfl (n := 194) rfl ?_
                      refine q_getR (z_dec zd_X8_behind 86 rfl) zf_X8_33 (i := 18) rfl rfl (n := 197) rfl ?_
                      refine q_getI (z_dec zd_X8_behind 87 rfl) zf_X8_154 (by decide) rfl (v := ((m_X3_goThrough b (m_X3_begin I np) L (42 + 2 * sh.toNatClampNeg) np sz (I (42 + 2 * sh.toNatClampNeg) 2).toNatClampNeg n.toNatClampNeg 0) 18 2)) rfl (n := 200) rfl ?_
                      exact p_iret (z_dec zd_X8_behind 88 rfl) rfl ⟨(by unfold f_X8_behind; rw [if_neg h2, if_pos h8, if_pos h21, if_neg h41, if_neg h45, if_neg h51, if_neg h67, if_pos h90, if_neg hs128_0, if_neg hs128_1, if_neg hs128_2]), rfl, (z_3 (by unfold m_X8_behind; rw [if_neg h2, if_pos h8, if_pos h21, if_neg h41, if_neg h45, if_neg h51, if_neg h67, if_pos h90, if_neg hs128_0, if_neg hs128_1, if_neg hs128_2]) rfl)⟩
                    · refine p_iload (z_dec zd_X8_behind 46 rfl) 0 rfl (n := 95) rfl ?_
                      exact p_iret (z_dec zd_X8_behind 47 rfl) rfl ⟨(by unfold f_X8_behind; rw [if_neg h2, if_pos h8, if_pos h21, if_neg h41, if_neg h45, if_neg h51, if_neg h67, if_neg h90]), rfl, (z_3 (by unfold m_X8_behind; rw [if_neg h2, if_pos h8, if_pos h21, if_neg h41, if_neg h45, if_neg h51, if_neg h67, if_neg h90]) rfl)⟩
                  · refine p_iload (z_dec zd_X8_behind 34 rfl) 0 rfl (n := 72) rfl ?_
                    refine p_if_eq (z_dec zd_X8_behind 35 rfl) (t := 79) (by decide) (n := 75) rfl (fun h72 => ?_) (fun h72 => ?_)
                    · exact absurd h72 (by decide)
                    · refine p_iload_n (z_dec zd_X8_behind 36 rfl) rfl 5 rfl (n := 76) rfl ?_
                      refine p_if_eq (z_dec zd_X8_behind 37 rfl) (t := 81) (by decide) (n := 79) rfl (fun h76 => ?_) (fun h76 => ?_)
                      · refine p_aload_n (z_dec zd_X8_behind 40 rfl) rfl 2 rfl (n := 82) rfl ?_
                        refine p_iload_n (z_dec zd_X8_behind 41 rfl) rfl 3 rfl (n := 83) rfl ?_
                        refine q_callV (As := [.int sh]) (rest := []) (z_dec zd_X8_behind 42 rfl) zk_X8_142 zv_X8_bytesRefusal (c_X8_bytesRefusal (d - 1) (by omega) b I L sh) rfl ⟨_, _, rfl⟩ rfl rfl (Nat.le_of_ble_eq_true rfl) (by omega) (n := 86) rfl ?_
                        show PW zm_X8_behind d 86 [(6, .int 1), (5, .int 1), (0, .ref 0), (1, .int sh), (2, .int n), (3, .int one), (4, .int what)] [.int (f_X8_bytesRefusal I sh)] SH (I, L, z_R b) 0 0 _
                        refine p_istore (z_dec zd_X8_behind 43 rfl) (lv2 := [(7, .int (f_X8_bytesRefusal I sh)), (6, .int 1), (5, .int 1), (0, .ref 0), (1, .int sh), (2, .int n), (3, .int one), (4, .int what)]) (by decide) rfl (n := 88) rfl ?_
                        refine p_iload (z_dec zd_X8_behind 44 rfl) 0 rfl (n := 90) rfl ?_
                        refine p_if_eq (z_dec zd_X8_behind 45 rfl) (t := 96) (by decide) (n := 93) rfl (fun h90 => ?_) (fun h90 => ?_)
                        · refine p_aload_n (z_dec zd_X8_behind 48 rfl) rfl 3 rfl (n := 97) rfl ?_
                          refine q_getR (z_dec zd_X8_behind 49 rfl) zf_X8_33 (i := 18) rfl rfl (n := 100) rfl ?_
                          refine p_aload_n (z_dec zd_X8_behind 50 rfl) rfl 3 rfl (n := 101) rfl ?_
                          refine q_getR (z_dec zd_X8_behind 51 rfl) zf_X8_10 (i := 1) rfl rfl (n := 104) rfl ?_
                          refine q_callV (As := [.ref 1]) (rest := []) (z_dec zd_X8_behind 52 rfl) zk_X8_146 zv_X3_begin (c_X3_begin (d - 1) (by omega) b I L np hnp hn10) rfl ⟨_, _, rfl⟩ rfl rfl (Nat.le_of_ble_eq_true rfl) (by omega) (n := 107) rfl ?_
                          show PW zm_X8_behind d 107 [(7, .int (f_X8_bytesRefusal I sh)), (6, .int 1), (5, .int 1), (0, .ref 0), (1, .int sh), (2, .int n), (3, .int one), (4, .int what)] [] SH ((m_X3_begin I np), L, z_R b) 0 0 _
                          have hP107 : z_H np sz (42 + 2 * sh.toNatClampNeg) (I (42 + 2 * sh.toNatClampNeg) 2).toNatClampNeg ((m_X3_begin I np)) := z_H_bg (by omega) hsz (hsl _ hj_sh.2).1
                          refine p_aload_n (z_dec zd_X8_behind 53 rfl) rfl 3 rfl (n := 108) rfl ?_
                          refine q_getR (z_dec zd_X8_behind 54 rfl) zf_X8_33 (i := 18) rfl rfl (n := 111) rfl ?_
                          refine p_iload_n (z_dec zd_X8_behind 55 rfl) rfl 5 rfl (n := 112) rfl ?_
                          refine p_aload_n (z_dec zd_X8_behind 56 rfl) rfl 3 rfl (n := 113) rfl ?_
                          refine q_getR (z_dec zd_X8_behind 57 rfl) zf_X8_67 (i := 41) rfl rfl (n := 116) rfl ?_
                          refine p_iload_n (z_dec zd_X8_behind 58 rfl) rfl 4 rfl (n := 117) rfl ?_
                          refine q_aald (z_dec zd_X8_behind 59 rfl) rfl (by decide) (sh.toNatClampNeg) hj_sh.1 hj_sh.2 (a := (42 + 2 * sh.toNatClampNeg)) (if_pos hj_sh.2) (n := 118) rfl ?_
                          refine p_aload_n (z_dec zd_X8_behind 60 rfl) rfl 3 rfl (n := 119) rfl ?_
                          refine q_getR (z_dec zd_X8_behind 61 rfl) zf_X8_26 (i := 13) rfl rfl (n := 122) rfl ?_
                          refine p_iconst (z_dec zd_X8_behind 62 rfl) (v := 0) (by decide) (n := 123) rfl ?_
                          refine q_callV (As := [.int (nI n.toNatClampNeg), .ref (42 + 2 * sh.toNatClampNeg), .ref 13, .int 0]) (rest := []) (z_dec zd_X8_behind 63 rfl) zk_X8_160 zv_X3_goThrough (c_X3_goThrough (d - 1) (by omega) b (m_X3_begin I np) L (42 + 2 * sh.toNatClampNeg) (z_SfOf b _ hj_sh.2) (by omega) np hn10 sz hs121 (I (42 + 2 * sh.toNatClampNeg) 2).toNatClampNeg (hsl _ hj_sh.2).2 hP107 n.toNatClampNeg (by omega) 0) rfl ⟨_, _, rfl⟩ (by simp only [← hn20.1]; rfl) rfl (Nat.le_of_ble_eq_true rfl) (by omega) (n := 126) rfl ?_
                          show PW zm_X8_behind d 126 [(7, .int (f_X8_bytesRefusal I sh)), (6, .int 1), (5, .int 1), (0, .ref 0), (1, .int sh), (2, .int n), (3, .int one), (4, .int what)] [] SH ((m_X3_goThrough b (m_X3_begin I np) L (42 + 2 * sh.toNatClampNeg) np sz (I (42 + 2 * sh.toNatClampNeg) 2).toNatClampNeg n.toNatClampNeg 0), L, z_R b) 0 0 _
                          have hP126 : z_H np sz (42 + 2 * sh.toNatClampNeg) (I (42 + 2 * sh.toNatClampNeg) 2).toNatClampNeg ((m_X3_goThrough b (m_X3_begin I np) L (42 + 2 * sh.toNatClampNeg) np sz (I (42 + 2 * sh.toNatClampNeg) 2).toNatClampNeg n.toNatClampNeg 0)) := z_H_gt (by omega) b L _ _ hP107
                          refine p_iload (z_dec zd_X8_behind 64 rfl) 7 rfl (n := 128) rfl ?_
                          by_cases hs128_0 : what = 0
                          · refine p_tableIn (z_dec zd_X8_behind 65 rfl) (off := 28) (t := 156) (by rw [hs128_0]; decide) (by rw [hs128_0]; decide) (by rw [hs128_0]; rfl) (by decide) ?_
                            refine p_aload_n (z_dec zd_X8_behind 66 rfl) rfl 3 rfl (n := 157) rfl ?_
                            refine q_getR (z_dec zd_X8_behind 67 rfl) zf_X8_33 (i := 18) rfl rfl (n := 160) rfl ?_
                            refine q_getR (z_dec zd_X8_behind 68 rfl) zf_X8_164 (i := 19) rfl rfl (n := 163) rfl ?_
                            refine q_getR (z_dec zd_X8_behind 69 rfl) zf_X8_165 (i := 22) rfl rfl (n := 166) rfl ?_
                            refine p_iload_n (z_dec zd_X8_behind 70 rfl) rfl 6 rfl (n := 167) rfl ?_
                            refine q_iald (z_dec zd_X8_behind 71 rfl) rfl (by decide) (0) h76 (by decide) (v := ((m_X3_goThrough b (m_X3_begin I np) L (42 + 2 * sh.toNatClampNeg) np sz (I (42 + 2 * sh.toNatClampNeg) 2).toNatClampNeg n.toNatClampNeg 0) 22 0)) rfl (n := 168) rfl ?_
                            exact p_iret (z_dec zd_X8_behind 72 rfl) rfl ⟨(by unfold f_X8_behind; rw [if_neg h2, if_pos h8, if_pos h21, if_neg h41, if_neg h45, if_neg h51, if_pos h67, if_pos h76, if_pos h90, if_pos hs128_0]), rfl, (z_3 (by unfold m_X8_behind; rw [if_neg h2, if_pos h8, if_pos h21, if_neg h41, if_neg h45, if_neg h51, if_pos h67, if_pos h76, if_pos h90, if_pos hs128_0]) rfl)⟩
                          by_cases hs128_1 : what = 1
                          · refine p_tableIn (z_dec zd_X8_behind 65 rfl) (off := 41) (t := 169) (by rw [hs128_1]; decide) (by rw [hs128_1]; decide) (by rw [hs128_1]; rfl) (by decide) ?_
                            refine p_aload_n (z_dec zd_X8_behind 73 rfl) rfl 3 rfl (n := 170) rfl ?_
                            refine q_getR (z_dec zd_X8_behind 74 rfl) zf_X8_33 (i := 18) rfl rfl (n := 173) rfl ?_
                            refine q_getR (z_dec zd_X8_behind 75 rfl) zf_X8_164 (i := 19) rfl rfl (n := 176) rfl ?_
                            refine q_getR (z_dec zd_X8_behind 76 rfl) zf_X8_169 (i := 21) rfl rfl (n := 179) rfl ?_
                            refine p_iload_n (z_dec zd_X8_behind 77 rfl) rfl 6 rfl (n := 180) rfl ?_
                            refine q_iald (z_dec zd_X8_behind 78 rfl) rfl (by decide) (0) h76 (by decide) (v := ((m_X3_goThrough b (m_X3_begin I np) L (42 + 2 * sh.toNatClampNeg) np sz (I (42 + 2 * sh.toNatClampNeg) 2).toNatClampNeg n.toNatClampNeg 0) 21 0)) rfl (n := 181) rfl ?_
                            exact p_iret (z_dec zd_X8_behind 79 rfl) rfl ⟨(by unfold f_X8_behind; rw [if_neg h2, if_pos h8, if_pos h21, if_neg h41, if_neg h45, if_neg h51, if_pos h67, if_pos h76, if_pos h90, if_neg hs128_0, if_pos hs128_1]), rfl, (z_3 (by unfold m_X8_behind; rw [if_neg h2, if_pos h8, if_pos h21, if_neg h41, if_neg h45, if_neg h51, if_pos h67, if_pos h76, if_pos h90, if_neg hs128_0, if_pos hs128_1]) rfl)⟩
                          by_cases hs128_2 : what = 2
                          · refine p_tableIn (z_dec zd_X8_behind 65 rfl) (off := 54) (t := 182) (by rw [hs128_2]; decide) (by rw [hs128_2]; decide) (by rw [hs128_2]; rfl) (by decide) ?_
                            refine p_aload_n (z_dec zd_X8_behind 80 rfl) rfl 3 rfl (n := 183) rfl ?_
                            refine q_getR (z_dec zd_X8_behind 81 rfl) zf_X8_33 (i := 18) rfl rfl (n := 186) rfl ?_
                            refine q_getR (z_dec zd_X8_behind 82 rfl) zf_X8_164 (i := 19) rfl rfl (n := 189) rfl ?_
                            refine q_callV (As := []) (rest := []) (z_dec zd_X8_behind 83 rfl) zk_X8_130 zv_X7_judgeBits (c_X7_judgeBits (d - 1) (by omega) b (m_X3_goThrough b (m_X3_begin I np) L (42 + 2 * sh.toNatClampNeg) np sz (I (42 + 2 * sh.toNatClampNeg) 2).toNatClampNeg n.toNatClampNeg 0) L 19 (z_Yd19 b) np hP126.1 hn10) rfl ⟨_, _, rfl⟩ rfl rfl (Nat.le_of_ble_eq_true rfl) (by omega) (n := 192) rfl ?_
                            show PW zm_X8_behind d 192 [(7, .int (f_X8_bytesRefusal I sh)), (6, .int 1), (5, .int 1), (0, .ref 0), (1, .int sh), (2, .int n), (3, .int one), (4, .int what)] [.int (f_X7_judgeBits (m_X3_goThrough b (m_X3_begin I np) L (42 + 2 * sh.toNatClampNeg) np sz (I (42 + 2 * sh.toNatClampNeg) 2).toNatClampNeg n.toNatClampNeg 0) 19 np)] SH ((m_X3_goThrough b (m_X3_begin I np) L (42 + 2 * sh.toNatClampNeg) np sz (I (42 + 2 * sh.toNatClampNeg) 2).toNatClampNeg n.toNatClampNeg 0), L, z_R b) 0 0 _
                            exact p_iret (z_dec zd_X8_behind 84 rfl) rfl ⟨(by unfold f_X8_behind; rw [if_neg h2, if_pos h8, if_pos h21, if_neg h41, if_neg h45, if_neg h51, if_pos h67, if_pos h76, if_pos h90, if_neg hs128_0, if_neg hs128_1, if_pos hs128_2]), rfl, (z_3 (by unfold m_X8_behind; rw [if_neg h2, if_pos h8, if_pos h21, if_neg h41, if_neg h45, if_neg h51, if_pos h67, if_pos h76, if_pos h90, if_neg hs128_0, if_neg hs128_1, if_pos hs128_2]) rfl)⟩
                          have hs128_0n : ¬ what.toInt = 0 := lv_neT hs128_0 rfl
                          have hs128_1n : ¬ what.toInt = 1 := lv_neT hs128_1 rfl
                          have hs128_2n : ¬ what.toInt = 2 := lv_neT hs128_2 rfl
                          refine p_tableOut (z_dec zd_X8_behind 65 rfl) (t := 193) (by omega) (by decide) ?_
                          refine p_aload_n (z_dec zd_X8_behind 85 rfl) rfl 3 rfl (n := 194) rfl ?_
                          refine q_getR (z_dec zd_X8_behind 86 rfl) zf_X8_33 (i := 18) rfl rfl (n := 197) rfl ?_
                          refine q_getI (z_dec zd_X8_behind 87 rfl) zf_X8_154 (by decide) rfl (v := ((m_X3_goThrough b (m_X3_begin I np) L (42 + 2 * sh.toNatClampNeg) np sz (I (42 + 2 * sh.toNatClampNeg) 2).toNatClampNeg n.toNatClampNeg 0) 18 2)) rfl (n := 200) rfl ?_
                          exact p_iret (z_dec zd_X8_behind 88 rfl) rfl ⟨(by unfold f_X8_behind; rw [if_neg h2, if_pos h8, if_pos h21, if_neg h41, if_neg h45, if_neg h51, if_pos h67, if_pos h76, if_pos h90, if_neg hs128_0, if_neg hs128_1, if_neg hs128_2]), rfl, (z_3 (by unfold m_X8_behind; rw [if_neg h2, if_pos h8, if_pos h21, if_neg h41, if_neg h45, if_neg h51, if_pos h67, if_pos h76, if_pos h90, if_neg hs128_0, if_neg hs128_1, if_neg hs128_2]) rfl)⟩
                        · refine p_iload (z_dec zd_X8_behind 46 rfl) 0 rfl (n := 95) rfl ?_
                          exact p_iret (z_dec zd_X8_behind 47 rfl) rfl ⟨(by unfold f_X8_behind; rw [if_neg h2, if_pos h8, if_pos h21, if_neg h41, if_neg h45, if_neg h51, if_pos h67, if_pos h76, if_neg h90]), rfl, (z_3 (by unfold m_X8_behind; rw [if_neg h2, if_pos h8, if_pos h21, if_neg h41, if_neg h45, if_neg h51, if_pos h67, if_pos h76, if_neg h90]) rfl)⟩
                      · refine p_iconst (z_dec zd_X8_behind 38 rfl) (v := (-1)) (by decide) (n := 80) rfl ?_
                        exact p_iret (z_dec zd_X8_behind 39 rfl) rfl ⟨(by unfold f_X8_behind; rw [if_neg h2, if_pos h8, if_pos h21, if_neg h41, if_neg h45, if_neg h51, if_pos h67, if_neg h76]), rfl, (z_3 (by unfold m_X8_behind; rw [if_neg h2, if_pos h8, if_pos h21, if_neg h41, if_neg h45, if_neg h51, if_pos h67, if_neg h76]) rfl)⟩
        · refine p_iload (z_dec zd_X8_behind 12 rfl) 5 rfl (n := 26) rfl ?_
          refine p_iconst (z_dec zd_X8_behind 13 rfl) (v := 3) (by decide) (n := 27) rfl ?_
          refine p_icmp_ne (z_dec zd_X8_behind 14 rfl) (t := 34) (by decide) (n := 30) rfl (fun h27 => ?_) (fun h27 => ?_)
          · refine p_iconst (z_dec zd_X8_behind 17 rfl) (v := 0) (by decide) (n := 35) rfl ?_
            refine p_istore (z_dec zd_X8_behind 18 rfl) (lv2 := [(6, .int 0), (5, .int 1), (0, .ref 0), (1, .int sh), (2, .int n), (3, .int one), (4, .int what)]) (by decide) rfl (n := 37) rfl ?_
            refine p_iload_n (z_dec zd_X8_behind 19 rfl) rfl 3 rfl (n := 38) rfl ?_
            refine q_callS (As := [.int sh]) (rest := []) (z_dec zd_X8_behind 20 rfl) zk_X8_80 zs_X8_isShelf (c_X8_isShelf (d - 1) (by omega) b I L sh) rfl rfl (Nat.le_of_ble_eq_true rfl) (by omega) (n := 41) rfl ?_
            show PW zm_X8_behind d 41 [(6, .int 0), (5, .int 1), (0, .ref 0), (1, .int sh), (2, .int n), (3, .int one), (4, .int what)] [.int (f_X8_isShelf sh)] SH (I, L, z_R b) 0 0 _
            refine p_if_eq (z_dec zd_X8_behind 21 rfl) (t := 79) (by decide) (n := 44) rfl (fun h41 => ?_) (fun h41 => ?_)
            · refine p_iconst (z_dec zd_X8_behind 38 rfl) (v := (-1)) (by decide) (n := 80) rfl ?_
              exact p_iret (z_dec zd_X8_behind 39 rfl) rfl ⟨(by unfold f_X8_behind; rw [if_neg h2, if_pos h8, if_neg h21, if_neg h27, if_pos h41]), rfl, (z_3 (by unfold m_X8_behind; rw [if_neg h2, if_pos h8, if_neg h21, if_neg h27, if_pos h41]) rfl)⟩
            · have hj_sh := z_shc h41
              refine p_iload_n (z_dec zd_X8_behind 22 rfl) rfl 4 rfl (n := 45) rfl ?_
              refine p_if_lt (z_dec zd_X8_behind 23 rfl) (t := 79) (by decide) (n := 48) rfl (fun h45 => ?_) (fun h45 => ?_)
              · refine p_iconst (z_dec zd_X8_behind 38 rfl) (v := (-1)) (by decide) (n := 80) rfl ?_
                exact p_iret (z_dec zd_X8_behind 39 rfl) rfl ⟨(by unfold f_X8_behind; rw [if_neg h2, if_pos h8, if_neg h21, if_neg h27, if_neg h41, if_pos h45]), rfl, (z_3 (by unfold m_X8_behind; rw [if_neg h2, if_pos h8, if_neg h21, if_neg h27, if_neg h41, if_pos h45]) rfl)⟩
              · refine p_iload_n (z_dec zd_X8_behind 24 rfl) rfl 4 rfl (n := 49) rfl ?_
                refine p_bipush (z_dec zd_X8_behind 25 rfl) (v := 20) (by decide) (n := 51) rfl ?_
                refine p_icmp_gt (z_dec zd_X8_behind 26 rfl) (t := 79) (by decide) (n := 54) rfl (fun h51 => ?_) (fun h51 => ?_)
                · refine p_iconst (z_dec zd_X8_behind 38 rfl) (v := (-1)) (by decide) (n := 80) rfl ?_
                  exact p_iret (z_dec zd_X8_behind 39 rfl) rfl ⟨(by unfold f_X8_behind; rw [if_neg h2, if_pos h8, if_neg h21, if_neg h27, if_neg h41, if_neg h45, if_pos h51]), rfl, (z_3 (by unfold m_X8_behind; rw [if_neg h2, if_pos h8, if_neg h21, if_neg h27, if_neg h41, if_neg h45, if_pos h51]) rfl)⟩
                · have hn20 := z_in20 h45 h51
                  refine p_iload (z_dec zd_X8_behind 27 rfl) 1 rfl (n := 56) rfl ?_
                  refine p_if_eq (z_dec zd_X8_behind 28 rfl) (t := 70) (by decide) (n := 59) rfl (fun h56 => ?_) (fun h56 => ?_)
                  · exact absurd h56 (by decide)
                  · refine p_aload_n (z_dec zd_X8_behind 29 rfl) rfl 2 rfl (n := 60) rfl ?_
                    refine q_getR (z_dec zd_X8_behind 30 rfl) zf_X8_10 (i := 1) rfl rfl (n := 63) rfl ?_
                    refine p_iload_n (z_dec zd_X8_behind 31 rfl) rfl 5 rfl (n := 64) rfl ?_
                    refine q_callV (As := [.int one]) (rest := []) (z_dec zd_X8_behind 32 rfl) zk_X8_133 zv_X7_has (c_X7_has (d - 1) (by omega) b I L 1 (z_Yd1 b) one) rfl ⟨_, _, rfl⟩ rfl rfl (Nat.le_of_ble_eq_true rfl) (by omega) (n := 67) rfl ?_
                    show PW zm_X8_behind d 67 [(6, .int 0), (5, .int 1), (0, .ref 0), (1, .int sh), (2, .int n), (3, .int one), (4, .int what)] [.int (f_X7_has I 1 one)] SH (I, L, z_R b) 0 0 _
                    refine p_if_ne (z_dec zd_X8_behind 33 rfl) (t := 81) (by decide) (n := 70) rfl (fun h67 => ?_) (fun h67 => ?_)
                    · have hj := z_has hnp hn10 h67
                      refine p_aload_n (z_dec zd_X8_behind 40 rfl) rfl 2 rfl (n := 82) rfl ?_
                      refine p_iload_n (z_dec zd_X8_behind 41 rfl) rfl 3 rfl (n := 83) rfl ?_
                      refine q_callV (As := [.int sh]) (rest := []) (z_dec zd_X8_behind 42 rfl) zk_X8_142 zv_X8_bytesRefusal (c_X8_bytesRefusal (d - 1) (by omega) b I L sh) rfl ⟨_, _, rfl⟩ rfl rfl (Nat.le_of_ble_eq_true rfl) (by omega) (n := 86) rfl ?_
                      show PW zm_X8_behind d 86 [(6, .int 0), (5, .int 1), (0, .ref 0), (1, .int sh), (2, .int n), (3, .int one), (4, .int what)] [.int (f_X8_bytesRefusal I sh)] SH (I, L, z_R b) 0 0 _
                      refine p_istore (z_dec zd_X8_behind 43 rfl) (lv2 := [(7, .int (f_X8_bytesRefusal I sh)), (6, .int 0), (5, .int 1), (0, .ref 0), (1, .int sh), (2, .int n), (3, .int one), (4, .int what)]) (by decide) rfl (n := 88) rfl ?_
                      refine p_iload (z_dec zd_X8_behind 44 rfl) 0 rfl (n := 90) rfl ?_
                      refine p_if_eq (z_dec zd_X8_behind 45 rfl) (t := 96) (by decide) (n := 93) rfl (fun h90 => ?_) (fun h90 => ?_)
                      · refine p_aload_n (z_dec zd_X8_behind 48 rfl) rfl 3 rfl (n := 97) rfl ?_
                        refine q_getR (z_dec zd_X8_behind 49 rfl) zf_X8_33 (i := 18) rfl rfl (n := 100) rfl ?_
                        refine p_aload_n (z_dec zd_X8_behind 50 rfl) rfl 3 rfl (n := 101) rfl ?_
                        refine q_getR (z_dec zd_X8_behind 51 rfl) zf_X8_10 (i := 1) rfl rfl (n := 104) rfl ?_
                        refine q_callV (As := [.ref 1]) (rest := []) (z_dec zd_X8_behind 52 rfl) zk_X8_146 zv_X3_begin (c_X3_begin (d - 1) (by omega) b I L np hnp hn10) rfl ⟨_, _, rfl⟩ rfl rfl (Nat.le_of_ble_eq_true rfl) (by omega) (n := 107) rfl ?_
                        show PW zm_X8_behind d 107 [(7, .int (f_X8_bytesRefusal I sh)), (6, .int 0), (5, .int 1), (0, .ref 0), (1, .int sh), (2, .int n), (3, .int one), (4, .int what)] [] SH ((m_X3_begin I np), L, z_R b) 0 0 _
                        have hP107 : z_H np sz (42 + 2 * sh.toNatClampNeg) (I (42 + 2 * sh.toNatClampNeg) 2).toNatClampNeg ((m_X3_begin I np)) := z_H_bg (by omega) hsz (hsl _ hj_sh.2).1
                        refine p_aload_n (z_dec zd_X8_behind 53 rfl) rfl 3 rfl (n := 108) rfl ?_
                        refine q_getR (z_dec zd_X8_behind 54 rfl) zf_X8_33 (i := 18) rfl rfl (n := 111) rfl ?_
                        refine p_iload_n (z_dec zd_X8_behind 55 rfl) rfl 5 rfl (n := 112) rfl ?_
                        refine p_aload_n (z_dec zd_X8_behind 56 rfl) rfl 3 rfl (n := 113) rfl ?_
                        refine q_getR (z_dec zd_X8_behind 57 rfl) zf_X8_67 (i := 41) rfl rfl (n := 116) rfl ?_
                        refine p_iload_n (z_dec zd_X8_behind 58 rfl) rfl 4 rfl (n := 117) rfl ?_
                        refine q_aald (z_dec zd_X8_behind 59 rfl) rfl (by decide) (sh.toNatClampNeg) hj_sh.1 hj_sh.2 (a := (42 + 2 * sh.toNatClampNeg)) (if_pos hj_sh.2) (n := 118) rfl ?_
                        refine p_aload_n (z_dec zd_X8_behind 60 rfl) rfl 3 rfl (n := 119) rfl ?_
                        refine q_getR (z_dec zd_X8_behind 61 rfl) zf_X8_26 (i := 13) rfl rfl (n := 122) rfl ?_
                        refine p_iconst (z_dec zd_X8_behind 62 rfl) (v := 0) (by decide) (n := 123) rfl ?_
                        refine q_callV (As := [.int (nI n.toNatClampNeg), .ref (42 + 2 * sh.toNatClampNeg), .ref 13, .int 0]) (rest := []) (z_dec zd_X8_behind 63 rfl) zk_X8_160 zv_X3_goThrough (c_X3_goThrough (d - 1) (by omega) b (m_X3_begin I np) L (42 + 2 * sh.toNatClampNeg) (z_SfOf b _ hj_sh.2) (by omega) np hn10 sz hs121 (I (42 + 2 * sh.toNatClampNeg) 2).toNatClampNeg (hsl _ hj_sh.2).2 hP107 n.toNatClampNeg (by omega) 0) rfl ⟨_, _, rfl⟩ (by simp only [← hn20.1]; rfl) rfl (Nat.le_of_ble_eq_true rfl) (by omega) (n := 126) rfl ?_
                        show PW zm_X8_behind d 126 [(7, .int (f_X8_bytesRefusal I sh)), (6, .int 0), (5, .int 1), (0, .ref 0), (1, .int sh), (2, .int n), (3, .int one), (4, .int what)] [] SH ((m_X3_goThrough b (m_X3_begin I np) L (42 + 2 * sh.toNatClampNeg) np sz (I (42 + 2 * sh.toNatClampNeg) 2).toNatClampNeg n.toNatClampNeg 0), L, z_R b) 0 0 _
                        have hP126 : z_H np sz (42 + 2 * sh.toNatClampNeg) (I (42 + 2 * sh.toNatClampNeg) 2).toNatClampNeg ((m_X3_goThrough b (m_X3_begin I np) L (42 + 2 * sh.toNatClampNeg) np sz (I (42 + 2 * sh.toNatClampNeg) 2).toNatClampNeg n.toNatClampNeg 0)) := z_H_gt (by omega) b L _ _ hP107
                        refine p_iload (z_dec zd_X8_behind 64 rfl) 7 rfl (n := 128) rfl ?_
                        by_cases hs128_0 : what = 0
                        · refine p_tableIn (z_dec zd_X8_behind 65 rfl) (off := 28) (t := 156) (by rw [hs128_0]; decide) (by rw [hs128_0]; decide) (by rw [hs128_0]; rfl) (by decide) ?_
                          refine p_aload_n (z_dec zd_X8_behind 66 rfl) rfl 3 rfl (n := 157) rfl ?_
                          refine q_getR (z_dec zd_X8_behind 67 rfl) zf_X8_33 (i := 18) rfl rfl (n := 160) rfl ?_
                          refine q_getR (z_dec zd_X8_behind 68 rfl) zf_X8_164 (i := 19) rfl rfl (n := 163) rfl ?_
                          refine q_getR (z_dec zd_X8_behind 69 rfl) zf_X8_165 (i := 22) rfl rfl (n := 166) rfl ?_
                          refine p_iload_n (z_dec zd_X8_behind 70 rfl) rfl 6 rfl (n := 167) rfl ?_
                          refine q_iald (z_dec zd_X8_behind 71 rfl) rfl (by decide) (one.toNatClampNeg) hj.1 (Nat.lt_of_lt_of_le hj.2 hn10) (v := ((m_X3_goThrough b (m_X3_begin I np) L (42 + 2 * sh.toNatClampNeg) np sz (I (42 + 2 * sh.toNatClampNeg) 2).toNatClampNeg n.toNatClampNeg 0) 22 one.toNatClampNeg)) rfl (n := 168) rfl ?_
                          exact p_iret (z_dec zd_X8_behind 72 rfl) rfl ⟨(by unfold f_X8_behind; rw [if_neg h2, if_pos h8, if_neg h21, if_neg h27, if_neg h41, if_neg h45, if_neg h51, if_neg h67, if_pos h90, if_pos hs128_0]), rfl, (z_3 (by unfold m_X8_behind; rw [if_neg h2, if_pos h8, if_neg h21, if_neg h27, if_neg h41, if_neg h45, if_neg h51, if_neg h67, if_pos h90, if_pos hs128_0]) rfl)⟩
                        by_cases hs128_1 : what = 1
                        · refine p_tableIn (z_dec zd_X8_behind 65 rfl) (off := 41) (t := 169) (by rw [hs128_1]; decide) (by rw [hs128_1]; decide) (by rw [hs128_1]; rfl) (by decide) ?_
                          refine p_aload_n (z_dec zd_X8_behind 73 rfl) rfl 3 rfl (n := 170) rfl ?_
                          refine q_getR (z_dec zd_X8_behind 74 rfl) zf_X8_33 (i := 18) rfl rfl (n := 173) rfl ?_
                          refine q_getR (z_dec zd_X8_behind 75 rfl) zf_X8_164 (i := 19) rfl rfl (n := 176) rfl ?_
                          refine q_getR (z_dec zd_X8_behind 76 rfl) zf_X8_169 (i := 21) rfl rfl (n := 179) rfl ?_
                          refine p_iload_n (z_dec zd_X8_behind 77 rfl) rfl 6 rfl (n := 180) rfl ?_
                          refine q_iald (z_dec zd_X8_behind 78 rfl) rfl (by decide) (one.toNatClampNeg) hj.1 (Nat.lt_of_lt_of_le hj.2 hn10) (v := ((m_X3_goThrough b (m_X3_begin I np) L (42 + 2 * sh.toNatClampNeg) np sz (I (42 + 2 * sh.toNatClampNeg) 2).toNatClampNeg n.toNatClampNeg 0) 21 one.toNatClampNeg)) rfl (n := 181) rfl ?_
                          exact p_iret (z_dec zd_X8_behind 79 rfl) rfl ⟨(by unfold f_X8_behind; rw [if_neg h2, if_pos h8, if_neg h21, if_neg h27, if_neg h41, if_neg h45, if_neg h51, if_neg h67, if_pos h90, if_neg hs128_0, if_pos hs128_1]), rfl, (z_3 (by unfold m_X8_behind; rw [if_neg h2, if_pos h8, if_neg h21, if_neg h27, if_neg h41, if_neg h45, if_neg h51, if_neg h67, if_pos h90, if_neg hs128_0, if_pos hs128_1]) rfl)⟩
                        by_cases hs128_2 : what = 2
                        · refine p_tableIn (z_dec zd_X8_behind 65 rfl) (off := 54) (t := 182) (by rw [hs128_2]; decide) (by rw [hs128_2]; decide) (by rw [hs128_2]; rfl) (by decide) ?_
                          refine p_aload_n (z_dec zd_X8_behind 80 rfl) rfl 3 rfl (n := 183) rfl ?_
                          refine q_getR (z_dec zd_X8_behind 81 rfl) zf_X8_33 (i := 18) rfl rfl (n := 186) rfl ?_
                          refine q_getR (z_dec zd_X8_behind 82 rfl) zf_X8_164 (i := 19) rfl rfl (n := 189) rfl ?_
                          refine q_callV (As := []) (rest := []) (z_dec zd_X8_behind 83 rfl) zk_X8_130 zv_X7_judgeBits (c_X7_judgeBits (d - 1) (by omega) b (m_X3_goThrough b (m_X3_begin I np) L (42 + 2 * sh.toNatClampNeg) np sz (I (42 + 2 * sh.toNatClampNeg) 2).toNatClampNeg n.toNatClampNeg 0) L 19 (z_Yd19 b) np hP126.1 hn10) rfl ⟨_, _, rfl⟩ rfl rfl (Nat.le_of_ble_eq_true rfl) (by omega) (n := 192) rfl ?_
                          show PW zm_X8_behind d 192 [(7, .int (f_X8_bytesRefusal I sh)), (6, .int 0), (5, .int 1), (0, .ref 0), (1, .int sh), (2, .int n), (3, .int one), (4, .int what)] [.int (f_X7_judgeBits (m_X3_goThrough b (m_X3_begin I np) L (42 + 2 * sh.toNatClampNeg) np sz (I (42 + 2 * sh.toNatClampNeg) 2).toNatClampNeg n.toNatClampNeg 0) 19 np)] SH ((m_X3_goThrough b (m_X3_begin I np) L (42 + 2 * sh.toNatClampNeg) np sz (I (42 + 2 * sh.toNatClampNeg) 2).toNatClampNeg n.toNatClampNeg 0), L, z_R b) 0 0 _
                          exact p_iret (z_dec zd_X8_behind 84 rfl) rfl ⟨(by unfold f_X8_behind; rw [if_neg h2, if_pos h8, if_neg h21, if_neg h27, if_neg h41, if_neg h45, if_neg h51, if_neg h67, if_pos h90, if_neg hs128_0, if_neg hs128_1, if_pos hs128_2]), rfl, (z_3 (by unfold m_X8_behind; rw [if_neg h2, if_pos h8, if_neg h21, if_neg h27, if_neg h41, if_neg h45, if_neg h51, if_neg h67, if_pos h90, if_neg hs128_0, if_neg hs128_1, if_pos hs128_2]) rfl)⟩
                        have hs128_0n : ¬ what.toInt = 0 := lv_neT hs128_0 rfl
                        have hs128_1n : ¬ what.toInt = 1 := lv_neT hs128_1 rfl
                        have hs128_2n : ¬ what.toInt = 2 := lv_neT hs128_2 rfl
                        refine p_tableOut (z_dec zd_X8_behind 65 rfl) (t := 193) (by omega) (by decide) ?_
                        refine p_aload_n (z_dec zd_X8_behind 85 rfl) rfl 3 rfl (n := 194) rfl ?_
                        refine q_getR (z_dec zd_X8_behind 86 rfl) zf_X8_33 (i := 18) rfl rfl (n := 197) rfl ?_
                        refine q_getI (z_dec zd_X8_behind 87 rfl) zf_X8_154 (by decide) rfl (v := ((m_X3_goThrough b (m_X3_begin I np) L (42 + 2 * sh.toNatClampNeg) np sz (I (42 + 2 * sh.toNatClampNeg) 2).toNatClampNeg n.toNatClampNeg 0) 18 2)) rfl (n := 200) rfl ?_
                        exact p_iret (z_dec zd_X8_behind 88 rfl) rfl ⟨(by unfold f_X8_behind; rw [if_neg h2, if_pos h8, if_neg h21, if_neg h27, if_neg h41, if_neg h45, if_neg h51, if_neg h67, if_pos h90, if_neg hs128_0, if_neg hs128_1, if_neg hs128_2]), rfl, (z_3 (by unfold m_X8_behind; rw [if_neg h2, if_pos h8, if_neg h21, if_neg h27, if_neg h41, if_neg h45, if_neg h51, if_neg h67, if_pos h90, if_neg hs128_0, if_neg hs128_1, if_neg hs128_2]) rfl)⟩
                      · refine p_iload (z_dec zd_X8_behind 46 rfl) 0 rfl (n := 95) rfl ?_
                        exact p_iret (z_dec zd_X8_behind 47 rfl) rfl ⟨(by unfold f_X8_behind; rw [if_neg h2, if_pos h8, if_neg h21, if_neg h27, if_neg h41, if_neg h45, if_neg h51, if_neg h67, if_neg h90]), rfl, (z_3 (by unfold m_X8_behind; rw [if_neg h2, if_pos h8, if_neg h21, if_neg h27, if_neg h41, if_neg h45, if_neg h51, if_neg h67, if_neg h90]) rfl)⟩
                    · refine p_iload (z_dec zd_X8_behind 34 rfl) 0 rfl (n := 72) rfl ?_
                      refine p_if_eq (z_dec zd_X8_behind 35 rfl) (t := 79) (by decide) (n := 75) rfl (fun h72 => ?_) (fun h72 => ?_)
                      · refine p_iconst (z_dec zd_X8_behind 38 rfl) (v := (-1)) (by decide) (n := 80) rfl ?_
                        exact p_iret (z_dec zd_X8_behind 39 rfl) rfl ⟨(by unfold f_X8_behind; rw [if_neg h2, if_pos h8, if_neg h21, if_neg h27, if_neg h41, if_neg h45, if_neg h51, if_pos h67]), rfl, (z_3 (by unfold m_X8_behind; rw [if_neg h2, if_pos h8, if_neg h21, if_neg h27, if_neg h41, if_neg h45, if_neg h51, if_pos h67]) rfl)⟩
                      · exact absurd h72 (by decide)
          · refine p_iconst (z_dec zd_X8_behind 15 rfl) (v := 1) (by decide) (n := 31) rfl ?_
            refine p_goto (z_dec zd_X8_behind 16 rfl) (t := 35) (by decide) ?_
            refine p_istore (z_dec zd_X8_behind 18 rfl) (lv2 := [(6, .int 1), (5, .int 1), (0, .ref 0), (1, .int sh), (2, .int n), (3, .int one), (4, .int what)]) (by decide) rfl (n := 37) rfl ?_
            refine p_iload_n (z_dec zd_X8_behind 19 rfl) rfl 3 rfl (n := 38) rfl ?_
            refine q_callS (As := [.int sh]) (rest := []) (z_dec zd_X8_behind 20 rfl) zk_X8_80 zs_X8_isShelf (c_X8_isShelf (d - 1) (by omega) b I L sh) rfl rfl (Nat.le_of_ble_eq_true rfl) (by omega) (n := 41) rfl ?_
            show PW zm_X8_behind d 41 [(6, .int 1), (5, .int 1), (0, .ref 0), (1, .int sh), (2, .int n), (3, .int one), (4, .int what)] [.int (f_X8_isShelf sh)] SH (I, L, z_R b) 0 0 _
            refine p_if_eq (z_dec zd_X8_behind 21 rfl) (t := 79) (by decide) (n := 44) rfl (fun h41 => ?_) (fun h41 => ?_)
            · refine p_iconst (z_dec zd_X8_behind 38 rfl) (v := (-1)) (by decide) (n := 80) rfl ?_
              exact p_iret (z_dec zd_X8_behind 39 rfl) rfl ⟨(by unfold f_X8_behind; rw [if_neg h2, if_pos h8, if_neg h21, if_pos h27, if_pos h41]), rfl, (z_3 (by unfold m_X8_behind; rw [if_neg h2, if_pos h8, if_neg h21, if_pos h27, if_pos h41]) rfl)⟩
            · have hj_sh := z_shc h41
              refine p_iload_n (z_dec zd_X8_behind 22 rfl) rfl 4 rfl (n := 45) rfl ?_
              refine p_if_lt (z_dec zd_X8_behind 23 rfl) (t := 79) (by decide) (n := 48) rfl (fun h45 => ?_) (fun h45 => ?_)
              · refine p_iconst (z_dec zd_X8_behind 38 rfl) (v := (-1)) (by decide) (n := 80) rfl ?_
                exact p_iret (z_dec zd_X8_behind 39 rfl) rfl ⟨(by unfold f_X8_behind; rw [if_neg h2, if_pos h8, if_neg h21, if_pos h27, if_neg h41, if_pos h45]), rfl, (z_3 (by unfold m_X8_behind; rw [if_neg h2, if_pos h8, if_neg h21, if_pos h27, if_neg h41, if_pos h45]) rfl)⟩
              · refine p_iload_n (z_dec zd_X8_behind 24 rfl) rfl 4 rfl (n := 49) rfl ?_
                refine p_bipush (z_dec zd_X8_behind 25 rfl) (v := 20) (by decide) (n := 51) rfl ?_
                refine p_icmp_gt (z_dec zd_X8_behind 26 rfl) (t := 79) (by decide) (n := 54) rfl (fun h51 => ?_) (fun h51 => ?_)
                · refine p_iconst (z_dec zd_X8_behind 38 rfl) (v := (-1)) (by decide) (n := 80) rfl ?_
                  exact p_iret (z_dec zd_X8_behind 39 rfl) rfl ⟨(by unfold f_X8_behind; rw [if_neg h2, if_pos h8, if_neg h21, if_pos h27, if_neg h41, if_neg h45, if_pos h51]), rfl, (z_3 (by unfold m_X8_behind; rw [if_neg h2, if_pos h8, if_neg h21, if_pos h27, if_neg h41, if_neg h45, if_pos h51]) rfl)⟩
                · have hn20 := z_in20 h45 h51
                  refine p_iload (z_dec zd_X8_behind 27 rfl) 1 rfl (n := 56) rfl ?_
                  refine p_if_eq (z_dec zd_X8_behind 28 rfl) (t := 70) (by decide) (n := 59) rfl (fun h56 => ?_) (fun h56 => ?_)
                  · exact absurd h56 (by decide)
                  · refine p_aload_n (z_dec zd_X8_behind 29 rfl) rfl 2 rfl (n := 60) rfl ?_
                    refine q_getR (z_dec zd_X8_behind 30 rfl) zf_X8_10 (i := 1) rfl rfl (n := 63) rfl ?_
                    refine p_iload_n (z_dec zd_X8_behind 31 rfl) rfl 5 rfl (n := 64) rfl ?_
                    refine q_callV (As := [.int one]) (rest := []) (z_dec zd_X8_behind 32 rfl) zk_X8_133 zv_X7_has (c_X7_has (d - 1) (by omega) b I L 1 (z_Yd1 b) one) rfl ⟨_, _, rfl⟩ rfl rfl (Nat.le_of_ble_eq_true rfl) (by omega) (n := 67) rfl ?_
                    show PW zm_X8_behind d 67 [(6, .int 1), (5, .int 1), (0, .ref 0), (1, .int sh), (2, .int n), (3, .int one), (4, .int what)] [.int (f_X7_has I 1 one)] SH (I, L, z_R b) 0 0 _
                    refine p_if_ne (z_dec zd_X8_behind 33 rfl) (t := 81) (by decide) (n := 70) rfl (fun h67 => ?_) (fun h67 => ?_)
                    · have hj := z_has hnp hn10 h67
                      refine p_aload_n (z_dec zd_X8_behind 40 rfl) rfl 2 rfl (n := 82) rfl ?_
                      refine p_iload_n (z_dec zd_X8_behind 41 rfl) rfl 3 rfl (n := 83) rfl ?_
                      refine q_callV (As := [.int sh]) (rest := []) (z_dec zd_X8_behind 42 rfl) zk_X8_142 zv_X8_bytesRefusal (c_X8_bytesRefusal (d - 1) (by omega) b I L sh) rfl ⟨_, _, rfl⟩ rfl rfl (Nat.le_of_ble_eq_true rfl) (by omega) (n := 86) rfl ?_
                      show PW zm_X8_behind d 86 [(6, .int 1), (5, .int 1), (0, .ref 0), (1, .int sh), (2, .int n), (3, .int one), (4, .int what)] [.int (f_X8_bytesRefusal I sh)] SH (I, L, z_R b) 0 0 _
                      refine p_istore (z_dec zd_X8_behind 43 rfl) (lv2 := [(7, .int (f_X8_bytesRefusal I sh)), (6, .int 1), (5, .int 1), (0, .ref 0), (1, .int sh), (2, .int n), (3, .int one), (4, .int what)]) (by decide) rfl (n := 88) rfl ?_
                      refine p_iload (z_dec zd_X8_behind 44 rfl) 0 rfl (n := 90) rfl ?_
                      refine p_if_eq (z_dec zd_X8_behind 45 rfl) (t := 96) (by decide) (n := 93) rfl (fun h90 => ?_) (fun h90 => ?_)
                      · refine p_aload_n (z_dec zd_X8_behind 48 rfl) rfl 3 rfl (n := 97) rfl ?_
                        refine q_getR (z_dec zd_X8_behind 49 rfl) zf_X8_33 (i := 18) rfl rfl (n := 100) rfl ?_
                        refine p_aload_n (z_dec zd_X8_behind 50 rfl) rfl 3 rfl (n := 101) rfl ?_
                        refine q_getR (z_dec zd_X8_behind 51 rfl) zf_X8_10 (i := 1) rfl rfl (n := 104) rfl ?_
                        refine q_callV (As := [.ref 1]) (rest := []) (z_dec zd_X8_behind 52 rfl) zk_X8_146 zv_X3_begin (c_X3_begin (d - 1) (by omega) b I L np hnp hn10) rfl ⟨_, _, rfl⟩ rfl rfl (Nat.le_of_ble_eq_true rfl) (by omega) (n := 107) rfl ?_
                        show PW zm_X8_behind d 107 [(7, .int (f_X8_bytesRefusal I sh)), (6, .int 1), (5, .int 1), (0, .ref 0), (1, .int sh), (2, .int n), (3, .int one), (4, .int what)] [] SH ((m_X3_begin I np), L, z_R b) 0 0 _
                        have hP107 : z_H np sz (42 + 2 * sh.toNatClampNeg) (I (42 + 2 * sh.toNatClampNeg) 2).toNatClampNeg ((m_X3_begin I np)) := z_H_bg (by omega) hsz (hsl _ hj_sh.2).1
                        refine p_aload_n (z_dec zd_X8_behind 53 rfl) rfl 3 rfl (n := 108) rfl ?_
                        refine q_getR (z_dec zd_X8_behind 54 rfl) zf_X8_33 (i := 18) rfl rfl (n := 111) rfl ?_
                        refine p_iload_n (z_dec zd_X8_behind 55 rfl) rfl 5 rfl (n := 112) rfl ?_
                        refine p_aload_n (z_dec zd_X8_behind 56 rfl) rfl 3 rfl (n := 113) rfl ?_
                        refine q_getR (z_dec zd_X8_behind 57 rfl) zf_X8_67 (i := 41) rfl rfl (n := 116) rfl ?_
                        refine p_iload_n (z_dec zd_X8_behind 58 rfl) rfl 4 rfl (n := 117) rfl ?_
                        refine q_aald (z_dec zd_X8_behind 59 rfl) rfl (by decide) (sh.toNatClampNeg) hj_sh.1 hj_sh.2 (a := (42 + 2 * sh.toNatClampNeg)) (if_pos hj_sh.2) (n := 118) rfl ?_
                        refine p_aload_n (z_dec zd_X8_behind 60 rfl) rfl 3 rfl (n := 119) rfl ?_
                        refine q_getR (z_dec zd_X8_behind 61 rfl) zf_X8_26 (i := 13) rfl rfl (n := 122) rfl ?_
                        refine p_iconst (z_dec zd_X8_behind 62 rfl) (v := 0) (by decide) (n := 123) rfl ?_
                        refine q_callV (As := [.int (nI n.toNatClampNeg), .ref (42 + 2 * sh.toNatClampNeg), .ref 13, .int 0]) (rest := []) (z_dec zd_X8_behind 63 rfl) zk_X8_160 zv_X3_goThrough (c_X3_goThrough (d - 1) (by omega) b (m_X3_begin I np) L (42 + 2 * sh.toNatClampNeg) (z_SfOf b _ hj_sh.2) (by omega) np hn10 sz hs121 (I (42 + 2 * sh.toNatClampNeg) 2).toNatClampNeg (hsl _ hj_sh.2).2 hP107 n.toNatClampNeg (by omega) 0) rfl ⟨_, _, rfl⟩ (by simp only [← hn20.1]; rfl) rfl (Nat.le_of_ble_eq_true rfl) (by omega) (n := 126) rfl ?_
                        show PW zm_X8_behind d 126 [(7, .int (f_X8_bytesRefusal I sh)), (6, .int 1), (5, .int 1), (0, .ref 0), (1, .int sh), (2, .int n), (3, .int one), (4, .int what)] [] SH ((m_X3_goThrough b (m_X3_begin I np) L (42 + 2 * sh.toNatClampNeg) np sz (I (42 + 2 * sh.toNatClampNeg) 2).toNatClampNeg n.toNatClampNeg 0), L, z_R b) 0 0 _
                        have hP126 : z_H np sz (42 + 2 * sh.toNatClampNeg) (I (42 + 2 * sh.toNatClampNeg) 2).toNatClampNeg ((m_X3_goThrough b (m_X3_begin I np) L (42 + 2 * sh.toNatClampNeg) np sz (I (42 + 2 * sh.toNatClampNeg) 2).toNatClampNeg n.toNatClampNeg 0)) := z_H_gt (by omega) b L _ _ hP107
                        refine p_iload (z_dec zd_X8_behind 64 rfl) 7 rfl (n := 128) rfl ?_
                        by_cases hs128_0 : what = 0
                        · refine p_tableIn (z_dec zd_X8_behind 65 rfl) (off := 28) (t := 156) (by rw [hs128_0]; decide) (by rw [hs128_0]; decide) (by rw [hs128_0]; rfl) (by decide) ?_
                          refine p_aload_n (z_dec zd_X8_behind 66 rfl) rfl 3 rfl (n := 157) rfl ?_
                          refine q_getR (z_dec zd_X8_behind 67 rfl) zf_X8_33 (i := 18) rfl rfl (n := 160) rfl ?_
                          refine q_getR (z_dec zd_X8_behind 68 rfl) zf_X8_164 (i := 19) rfl rfl (n := 163) rfl ?_
                          refine q_getR (z_dec zd_X8_behind 69 rfl) zf_X8_165 (i := 22) rfl rfl (n := 166) rfl ?_
                          refine p_iload_n (z_dec zd_X8_behind 70 rfl) rfl 6 rfl (n := 167) rfl ?_
                          refine q_iald (z_dec zd_X8_behind 71 rfl) rfl (by decide) (one.toNatClampNeg) hj.1 (Nat.lt_of_lt_of_le hj.2 hn10) (v := ((m_X3_goThrough b (m_X3_begin I np) L (42 + 2 * sh.toNatClampNeg) np sz (I (42 + 2 * sh.toNatClampNeg) 2).toNatClampNeg n.toNatClampNeg 0) 22 one.toNatClampNeg)) rfl (n := 168) rfl ?_
                          exact p_iret (z_dec zd_X8_behind 72 rfl) rfl ⟨(by unfold f_X8_behind; rw [if_neg h2, if_pos h8, if_neg h21, if_pos h27, if_neg h41, if_neg h45, if_neg h51, if_neg h67, if_pos h90, if_pos hs128_0]), rfl, (z_3 (by unfold m_X8_behind; rw [if_neg h2, if_pos h8, if_neg h21, if_pos h27, if_neg h41, if_neg h45, if_neg h51, if_neg h67, if_pos h90, if_pos hs128_0]) rfl)⟩
                        by_cases hs128_1 : what = 1
                        · refine p_tableIn (z_dec zd_X8_behind 65 rfl) (off := 41) (t := 169) (by rw [hs128_1]; decide) (by rw [hs128_1]; decide) (by rw [hs128_1]; rfl) (by decide) ?_
                          refine p_aload_n (z_dec zd_X8_behind 73 rfl) rfl 3 rfl (n := 170) rfl ?_
                          refine q_getR (z_dec zd_X8_behind 74 rfl) zf_X8_33 (i := 18) rfl rfl (n := 173) rfl ?_
                          refine q_getR (z_dec zd_X8_behind 75 rfl) zf_X8_164 (i := 19) rfl rfl (n := 176) rfl ?_
                          refine q_getR (z_dec zd_X8_behind 76 rfl) zf_X8_169 (i := 21) rfl rfl (n := 179) rfl ?_
                          refine p_iload_n (z_dec zd_X8_behind 77 rfl) rfl 6 rfl (n := 180) rfl ?_
                          refine q_iald (z_dec zd_X8_behind 78 rfl) rfl (by decide) (one.toNatClampNeg) hj.1 (Nat.lt_of_lt_of_le hj.2 hn10) (v := ((m_X3_goThrough b (m_X3_begin I np) L (42 + 2 * sh.toNatClampNeg) np sz (I (42 + 2 * sh.toNatClampNeg) 2).toNatClampNeg n.toNatClampNeg 0) 21 one.toNatClampNeg)) rfl (n := 181) rfl ?_
                          exact p_iret (z_dec zd_X8_behind 79 rfl) rfl ⟨(by unfold f_X8_behind; rw [if_neg h2, if_pos h8, if_neg h21, if_pos h27, if_neg h41, if_neg h45, if_neg h51, if_neg h67, if_pos h90, if_neg hs128_0, if_pos hs128_1]), rfl, (z_3 (by unfold m_X8_behind; rw [if_neg h2, if_pos h8, if_neg h21, if_pos h27, if_neg h41, if_neg h45, if_neg h51, if_neg h67, if_pos h90, if_neg hs128_0, if_pos hs128_1]) rfl)⟩
                        by_cases hs128_2 : what = 2
                        · refine p_tableIn (z_dec zd_X8_behind 65 rfl) (off := 54) (t := 182) (by rw [hs128_2]; decide) (by rw [hs128_2]; decide) (by rw [hs128_2]; rfl) (by decide) ?_
                          refine p_aload_n (z_dec zd_X8_behind 80 rfl) rfl 3 rfl (n := 183) rfl ?_
                          refine q_getR (z_dec zd_X8_behind 81 rfl) zf_X8_33 (i := 18) rfl rfl (n := 186) rfl ?_
                          refine q_getR (z_dec zd_X8_behind 82 rfl) zf_X8_164 (i := 19) rfl rfl (n := 189) rfl ?_
                          refine q_callV (As := []) (rest := []) (z_dec zd_X8_behind 83 rfl) zk_X8_130 zv_X7_judgeBits (c_X7_judgeBits (d - 1) (by omega) b (m_X3_goThrough b (m_X3_begin I np) L (42 + 2 * sh.toNatClampNeg) np sz (I (42 + 2 * sh.toNatClampNeg) 2).toNatClampNeg n.toNatClampNeg 0) L 19 (z_Yd19 b) np hP126.1 hn10) rfl ⟨_, _, rfl⟩ rfl rfl (Nat.le_of_ble_eq_true rfl) (by omega) (n := 192) rfl ?_
                          show PW zm_X8_behind d 192 [(7, .int (f_X8_bytesRefusal I sh)), (6, .int 1), (5, .int 1), (0, .ref 0), (1, .int sh), (2, .int n), (3, .int one), (4, .int what)] [.int (f_X7_judgeBits (m_X3_goThrough b (m_X3_begin I np) L (42 + 2 * sh.toNatClampNeg) np sz (I (42 + 2 * sh.toNatClampNeg) 2).toNatClampNeg n.toNatClampNeg 0) 19 np)] SH ((m_X3_goThrough b (m_X3_begin I np) L (42 + 2 * sh.toNatClampNeg) np sz (I (42 + 2 * sh.toNatClampNeg) 2).toNatClampNeg n.toNatClampNeg 0), L, z_R b) 0 0 _
                          exact p_iret (z_dec zd_X8_behind 84 rfl) rfl ⟨(by unfold f_X8_behind; rw [if_neg h2, if_pos h8, if_neg h21, if_pos h27, if_neg h41, if_neg h45, if_neg h51, if_neg h67, if_pos h90, if_neg hs128_0, if_neg hs128_1, if_pos hs128_2]), rfl, (z_3 (by unfold m_X8_behind; rw [if_neg h2, if_pos h8, if_neg h21, if_pos h27, if_neg h41, if_neg h45, if_neg h51, if_neg h67, if_pos h90, if_neg hs128_0, if_neg hs128_1, if_pos hs128_2]) rfl)⟩
                        have hs128_0n : ¬ what.toInt = 0 := lv_neT hs128_0 rfl
                        have hs128_1n : ¬ what.toInt = 1 := lv_neT hs128_1 rfl
                        have hs128_2n : ¬ what.toInt = 2 := lv_neT hs128_2 rfl
                        refine p_tableOut (z_dec zd_X8_behind 65 rfl) (t := 193) (by omega) (by decide) ?_
                        refine p_aload_n (z_dec zd_X8_behind 85 rfl) rfl 3 rfl (n := 194) rfl ?_
                        refine q_getR (z_dec zd_X8_behind 86 rfl) zf_X8_33 (i := 18) rfl rfl (n := 197) rfl ?_
                        refine q_getI (z_dec zd_X8_behind 87 rfl) zf_X8_154 (by decide) rfl (v := ((m_X3_goThrough b (m_X3_begin I np) L (42 + 2 * sh.toNatClampNeg) np sz (I (42 + 2 * sh.toNatClampNeg) 2).toNatClampNeg n.toNatClampNeg 0) 18 2)) rfl (n := 200) rfl ?_
                        exact p_iret (z_dec zd_X8_behind 88 rfl) rfl ⟨(by unfold f_X8_behind; rw [if_neg h2, if_pos h8, if_neg h21, if_pos h27, if_neg h41, if_neg h45, if_neg h51, if_neg h67, if_pos h90, if_neg hs128_0, if_neg hs128_1, if_neg hs128_2]), rfl, (z_3 (by unfold m_X8_behind; rw [if_neg h2, if_pos h8, if_neg h21, if_pos h27, if_neg h41, if_neg h45, if_neg h51, if_neg h67, if_pos h90, if_neg hs128_0, if_neg hs128_1, if_neg hs128_2]) rfl)⟩
                      · refine p_iload (z_dec zd_X8_behind 46 rfl) 0 rfl (n := 95) rfl ?_
                        exact p_iret (z_dec zd_X8_behind 47 rfl) rfl ⟨(by unfold f_X8_behind; rw [if_neg h2, if_pos h8, if_neg h21, if_pos h27, if_neg h41, if_neg h45, if_neg h51, if_neg h67, if_neg h90]), rfl, (z_3 (by unfold m_X8_behind; rw [if_neg h2, if_pos h8, if_neg h21, if_pos h27, if_neg h41, if_neg h45, if_neg h51, if_neg h67, if_neg h90]) rfl)⟩
                    · refine p_iload (z_dec zd_X8_behind 34 rfl) 0 rfl (n := 72) rfl ?_
                      refine p_if_eq (z_dec zd_X8_behind 35 rfl) (t := 79) (by decide) (n := 75) rfl (fun h72 => ?_) (fun h72 => ?_)
                      · exact absurd h72 (by decide)
                      · refine p_iload_n (z_dec zd_X8_behind 36 rfl) rfl 5 rfl (n := 76) rfl ?_
                        refine p_if_eq (z_dec zd_X8_behind 37 rfl) (t := 81) (by decide) (n := 79) rfl (fun h76 => ?_) (fun h76 => ?_)
                        · refine p_aload_n (z_dec zd_X8_behind 40 rfl) rfl 2 rfl (n := 82) rfl ?_
                          refine p_iload_n (z_dec zd_X8_behind 41 rfl) rfl 3 rfl (n := 83) rfl ?_
                          refine q_callV (As := [.int sh]) (rest := []) (z_dec zd_X8_behind 42 rfl) zk_X8_142 zv_X8_bytesRefusal (c_X8_bytesRefusal (d - 1) (by omega) b I L sh) rfl ⟨_, _, rfl⟩ rfl rfl (Nat.le_of_ble_eq_true rfl) (by omega) (n := 86) rfl ?_
                          show PW zm_X8_behind d 86 [(6, .int 1), (5, .int 1), (0, .ref 0), (1, .int sh), (2, .int n), (3, .int one), (4, .int what)] [.int (f_X8_bytesRefusal I sh)] SH (I, L, z_R b) 0 0 _
                          refine p_istore (z_dec zd_X8_behind 43 rfl) (lv2 := [(7, .int (f_X8_bytesRefusal I sh)), (6, .int 1), (5, .int 1), (0, .ref 0), (1, .int sh), (2, .int n), (3, .int one), (4, .int what)]) (by decide) rfl (n := 88) rfl ?_
                          refine p_iload (z_dec zd_X8_behind 44 rfl) 0 rfl (n := 90) rfl ?_
                          refine p_if_eq (z_dec zd_X8_behind 45 rfl) (t := 96) (by decide) (n := 93) rfl (fun h90 => ?_) (fun h90 => ?_)
                          · refine p_aload_n (z_dec zd_X8_behind 48 rfl) rfl 3 rfl (n := 97) rfl ?_
                            refine q_getR (z_dec zd_X8_behind 49 rfl) zf_X8_33 (i := 18) rfl rfl (n := 100) rfl ?_
                            refine p_aload_n (z_dec zd_X8_behind 50 rfl) rfl 3 rfl (n := 101) rfl ?_
                            refine q_getR (z_dec zd_X8_behind 51 rfl) zf_X8_10 (i := 1) rfl rfl (n := 104) rfl ?_
                            refine q_callV (As := [.ref 1]) (rest := []) (z_dec zd_X8_behind 52 rfl) zk_X8_146 zv_X3_begin (c_X3_begin (d - 1) (by omega) b I L np hnp hn10) rfl ⟨_, _, rfl⟩ rfl rfl (Nat.le_of_ble_eq_true rfl) (by omega) (n := 107) rfl ?_
                            show PW zm_X8_behind d 107 [(7, .int (f_X8_bytesRefusal I sh)), (6, .int 1), (5, .int 1), (0, .ref 0), (1, .int sh), (2, .int n), (3, .int one), (4, .int what)] [] SH ((m_X3_begin I np), L, z_R b) 0 0 _
                            have hP107 : z_H np sz (42 + 2 * sh.toNatClampNeg) (I (42 + 2 * sh.toNatClampNeg) 2).toNatClampNeg ((m_X3_begin I np)) := z_H_bg (by omega) hsz (hsl _ hj_sh.2).1
                            refine p_aload_n (z_dec zd_X8_behind 53 rfl) rfl 3 rfl (n := 108) rfl ?_
                            refine q_getR (z_dec zd_X8_behind 54 rfl) zf_X8_33 (i := 18) rfl rfl (n := 111) rfl ?_
                            refine p_iload_n (z_dec zd_X8_behind 55 rfl) rfl 5 rfl (n := 112) rfl ?_
                            refine p_aload_n (z_dec zd_X8_behind 56 rfl) rfl 3 rfl (n := 113) rfl ?_
                            refine q_getR (z_dec zd_X8_behind 57 rfl) zf_X8_67 (i := 41) rfl rfl (n := 116) rfl ?_
                            refine p_iload_n (z_dec zd_X8_behind 58 rfl) rfl 4 rfl (n := 117) rfl ?_
                            refine q_aald (z_dec zd_X8_behind 59 rfl) rfl (by decide) (sh.toNatClampNeg) hj_sh.1 hj_sh.2 (a := (42 + 2 * sh.toNatClampNeg)) (if_pos hj_sh.2) (n := 118) rfl ?_
                            refine p_aload_n (z_dec zd_X8_behind 60 rfl) rfl 3 rfl (n := 119) rfl ?_
                            refine q_getR (z_dec zd_X8_behind 61 rfl) zf_X8_26 (i := 13) rfl rfl (n := 122) rfl ?_
                            refine p_iconst (z_dec zd_X8_behind 62 rfl) (v := 0) (by decide) (n := 123) rfl ?_
                            refine q_callV (As := [.int (nI n.toNatClampNeg), .ref (42 + 2 * sh.toNatClampNeg), .ref 13, .int 0]) (rest := []) (z_dec zd_X8_behind 63 rfl) zk_X8_160 zv_X3_goThrough (c_X3_goThrough (d - 1) (by omega) b (m_X3_begin I np) L (42 + 2 * sh.toNatClampNeg) (z_SfOf b _ hj_sh.2) (by omega) np hn10 sz hs121 (I (42 + 2 * sh.toNatClampNeg) 2).toNatClampNeg (hsl _ hj_sh.2).2 hP107 n.toNatClampNeg (by omega) 0) rfl ⟨_, _, rfl⟩ (by simp only [← hn20.1]; rfl) rfl (Nat.le_of_ble_eq_true rfl) (by omega) (n := 126) rfl ?_
                            show PW zm_X8_behind d 126 [(7, .int (f_X8_bytesRefusal I sh)), (6, .int 1), (5, .int 1), (0, .ref 0), (1, .int sh), (2, .int n), (3, .int one), (4, .int what)] [] SH ((m_X3_goThrough b (m_X3_begin I np) L (42 + 2 * sh.toNatClampNeg) np sz (I (42 + 2 * sh.toNatClampNeg) 2).toNatClampNeg n.toNatClampNeg 0), L, z_R b) 0 0 _
                            have hP126 : z_H np sz (42 + 2 * sh.toNatClampNeg) (I (42 + 2 * sh.toNatClampNeg) 2).toNatClampNeg ((m_X3_goThrough b (m_X3_begin I np) L (42 + 2 * sh.toNatClampNeg) np sz (I (42 + 2 * sh.toNatClampNeg) 2).toNatClampNeg n.toNatClampNeg 0)) := z_H_gt (by omega) b L _ _ hP107
                            refine p_iload (z_dec zd_X8_behind 64 rfl) 7 rfl (n := 128) rfl ?_
                            by_cases hs128_0 : what = 0
                            · refine p_tableIn (z_dec zd_X8_behind 65 rfl) (off := 28) (t := 156) (by rw [hs128_0]; decide) (by rw [hs128_0]; decide) (by rw [hs128_0]; rfl) (by decide) ?_
                              refine p_aload_n (z_dec zd_X8_behind 66 rfl) rfl 3 rfl (n := 157) rfl ?_
                              refine q_getR (z_dec zd_X8_behind 67 rfl) zf_X8_33 (i := 18) rfl rfl (n := 160) rfl ?_
                              refine q_getR (z_dec zd_X8_behind 68 rfl) zf_X8_164 (i := 19) rfl rfl (n := 163) rfl ?_
                              refine q_getR (z_dec zd_X8_behind 69 rfl) zf_X8_165 (i := 22) rfl rfl (n := 166) rfl ?_
                              refine p_iload_n (z_dec zd_X8_behind 70 rfl) rfl 6 rfl (n := 167) rfl ?_
                              refine q_iald (z_dec zd_X8_behind 71 rfl) rfl (by decide) (0) h76 (by decide) (v := ((m_X3_goThrough b (m_X3_begin I np) L (42 + 2 * sh.toNatClampNeg) np sz (I (42 + 2 * sh.toNatClampNeg) 2).toNatClampNeg n.toNatClampNeg 0) 22 0)) rfl (n := 168) rfl ?_
                              exact p_iret (z_dec zd_X8_behind 72 rfl) rfl ⟨(by unfold f_X8_behind; rw [if_neg h2, if_pos h8, if_neg h21, if_pos h27, if_neg h41, if_neg h45, if_neg h51, if_pos h67, if_pos h76, if_pos h90, if_pos hs128_0]), rfl, (z_3 (by unfold m_X8_behind; rw [if_neg h2, if_pos h8, if_neg h21, if_pos h27, if_neg h41, if_neg h45, if_neg h51, if_pos h67, if_pos h76, if_pos h90, if_pos hs128_0]) rfl)⟩
                            by_cases hs128_1 : what = 1
                            · refine p_tableIn (z_dec zd_X8_behind 65 rfl) (off := 41) (t := 169) (by rw [hs128_1]; decide) (by rw [hs128_1]; decide) (by rw [hs128_1]; rfl) (by decide) ?_
                              refine p_aload_n (z_dec zd_X8_behind 73 rfl) rfl 3 rfl (n := 170) rfl ?_
                              refine q_getR (z_dec zd_X8_behind 74 rfl) zf_X8_33 (i := 18) rfl rfl (n := 173) rfl ?_
                              refine q_getR (z_dec zd_X8_behind 75 rfl) zf_X8_164 (i := 19) rfl rfl (n := 176) rfl ?_
                              refine q_getR (z_dec zd_X8_behind 76 rfl) zf_X8_169 (i := 21) rfl rfl (n := 179) rfl ?_
                              refine p_iload_n (z_dec zd_X8_behind 77 rfl) rfl 6 rfl (n := 180) rfl ?_
                              refine q_iald (z_dec zd_X8_behind 78 rfl) rfl (by decide) (0) h76 (by decide) (v := ((m_X3_goThrough b (m_X3_begin I np) L (42 + 2 * sh.toNatClampNeg) np sz (I (42 + 2 * sh.toNatClampNeg) 2).toNatClampNeg n.toNatClampNeg 0) 21 0)) rfl (n := 181) rfl ?_
                              exact p_iret (z_dec zd_X8_behind 79 rfl) rfl ⟨(by unfold f_X8_behind; rw [if_neg h2, if_pos h8, if_neg h21, if_pos h27, if_neg h41, if_neg h45, if_neg h51, if_pos h67, if_pos h76, if_pos h90, if_neg hs128_0, if_pos hs128_1]), rfl, (z_3 (by unfold m_X8_behind; rw [if_neg h2, if_pos h8, if_neg h21, if_pos h27, if_neg h41, if_neg h45, if_neg h51, if_pos h67, if_pos h76, if_pos h90, if_neg hs128_0, if_pos hs128_1]) rfl)⟩
                            by_cases hs128_2 : what = 2
                            · refine p_tableIn (z_dec zd_X8_behind 65 rfl) (off := 54) (t := 182) (by rw [hs128_2]; decide) (by rw [hs128_2]; decide) (by rw [hs128_2]; rfl) (by decide) ?_
                              refine p_aload_n (z_dec zd_X8_behind 80 rfl) rfl 3 rfl (n := 183) rfl ?_
                              refine q_getR (z_dec zd_X8_behind 81 rfl) zf_X8_33 (i := 18) rfl rfl (n := 186) rfl ?_
                              refine q_getR (z_dec zd_X8_behind 82 rfl) zf_X8_164 (i := 19) rfl rfl (n := 189) rfl ?_
                              refine q_callV (As := []) (rest := []) (z_dec zd_X8_behind 83 rfl) zk_X8_130 zv_X7_judgeBits (c_X7_judgeBits (d - 1) (by omega) b (m_X3_goThrough b (m_X3_begin I np) L (42 + 2 * sh.toNatClampNeg) np sz (I (42 + 2 * sh.toNatClampNeg) 2).toNatClampNeg n.toNatClampNeg 0) L 19 (z_Yd19 b) np hP126.1 hn10) rfl ⟨_, _, rfl⟩ rfl rfl (Nat.le_of_ble_eq_true rfl) (by omega) (n := 192) rfl ?_
                              show PW zm_X8_behind d 192 [(7, .int (f_X8_bytesRefusal I sh)), (6, .int 1), (5, .int 1), (0, .ref 0), (1, .int sh), (2, .int n), (3, .int one), (4, .int what)] [.int (f_X7_judgeBits (m_X3_goThrough b (m_X3_begin I np) L (42 + 2 * sh.toNatClampNeg) np sz (I (42 + 2 * sh.toNatClampNeg) 2).toNatClampNeg n.toNatClampNeg 0) 19 np)] SH ((m_X3_goThrough b (m_X3_begin I np) L (42 + 2 * sh.toNatClampNeg) np sz (I (42 + 2 * sh.toNatClampNeg) 2).toNatClampNeg n.toNatClampNeg 0), L, z_R b) 0 0 _
                              exact p_iret (z_dec zd_X8_behind 84 rfl) rfl ⟨(by unfold f_X8_behind; rw [if_neg h2, if_pos h8, if_neg h21, if_pos h27, if_neg h41, if_neg h45, if_neg h51, if_pos h67, if_pos h76, if_pos h90, if_neg hs128_0, if_neg hs128_1, if_pos hs128_2]), rfl, (z_3 (by unfold m_X8_behind; rw [if_neg h2, if_pos h8, if_neg h21, if_pos h27, if_neg h41, if_neg h45, if_neg h51, if_pos h67, if_pos h76, if_pos h90, if_neg hs128_0, if_neg hs128_1, if_pos hs128_2]) rfl)⟩
                            have hs128_0n : ¬ what.toInt = 0 := lv_neT hs128_0 rfl
                            have hs128_1n : ¬ what.toInt = 1 := lv_neT hs128_1 rfl
                            have hs128_2n : ¬ what.toInt = 2 := lv_neT hs128_2 rfl
                            refine p_tableOut (z_dec zd_X8_behind 65 rfl) (t := 193) (by omega) (by decide) ?_
                            refine p_aload_n (z_dec zd_X8_behind 85 rfl) rfl 3 rfl (n := 194) rfl ?_
                            refine q_getR (z_dec zd_X8_behind 86 rfl) zf_X8_33 (i := 18) rfl rfl (n := 197) rfl ?_
                            refine q_getI (z_dec zd_X8_behind 87 rfl) zf_X8_154 (by decide) rfl (v := ((m_X3_goThrough b (m_X3_begin I np) L (42 + 2 * sh.toNatClampNeg) np sz (I (42 + 2 * sh.toNatClampNeg) 2).toNatClampNeg n.toNatClampNeg 0) 18 2)) rfl (n := 200) rfl ?_
                            exact p_iret (z_dec zd_X8_behind 88 rfl) rfl ⟨(by unfold f_X8_behind; rw [if_neg h2, if_pos h8, if_neg h21, if_pos h27, if_neg h41, if_neg h45, if_neg h51, if_pos h67, if_pos h76, if_pos h90, if_neg hs128_0, if_neg hs128_1, if_neg hs128_2]), rfl, (z_3 (by unfold m_X8_behind; rw [if_neg h2, if_pos h8, if_neg h21, if_pos h27, if_neg h41, if_neg h45, if_neg h51, if_pos h67, if_pos h76, if_pos h90, if_neg hs128_0, if_neg hs128_1, if_neg hs128_2]) rfl)⟩
                          · refine p_iload (z_dec zd_X8_behind 46 rfl) 0 rfl (n := 95) rfl ?_
                            exact p_iret (z_dec zd_X8_behind 47 rfl) rfl ⟨(by unfold f_X8_behind; rw [if_neg h2, if_pos h8, if_neg h21, if_pos h27, if_neg h41, if_neg h45, if_neg h51, if_pos h67, if_pos h76, if_neg h90]), rfl, (z_3 (by unfold m_X8_behind; rw [if_neg h2, if_pos h8, if_neg h21, if_pos h27, if_neg h41, if_neg h45, if_neg h51, if_pos h67, if_pos h76, if_neg h90]) rfl)⟩
                        · refine p_iconst (z_dec zd_X8_behind 38 rfl) (v := (-1)) (by decide) (n := 80) rfl ?_
                          exact p_iret (z_dec zd_X8_behind 39 rfl) rfl ⟨(by unfold f_X8_behind; rw [if_neg h2, if_pos h8, if_neg h21, if_pos h27, if_neg h41, if_neg h45, if_neg h51, if_pos h67, if_neg h76]), rfl, (z_3 (by unfold m_X8_behind; rw [if_neg h2, if_pos h8, if_neg h21, if_pos h27, if_neg h41, if_neg h45, if_neg h51, if_pos h67, if_neg h76]) rfl)⟩
  exact hentry
