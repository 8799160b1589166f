-- what a verse, a chapter, a verse beside tell
def vA (a0 a1 a2 a3 a4 y : Int) : Int := if y = 0 then a0 else if y = 1 then a1 else if y = 2 then a2 else if y = 3 then a3 else if y = 4 then a4 else -2
def cA (a0 a1 a2 y : Int) : Int := if y = 0 then a0 else if y = 1 then a1 else if y = 2 then a2 else -2
theorem t_verse0 {c0 l0 o0 : Int → Int} {n0 n1 w0 v y j : Int} {u0 u1 u2 : Nat → Int32} {y9 : Int32} (k0 : okB n0 c0 l0 o0) (hb : 0 ≤ n1 ∧ n1 ≤ 60) (hw : 1 ≤ w0 ∧ w0 ≤ 200) (q : 0 ≤ v ∧ v < n0) (hj : isF c0 (c0 v) n0 j) (hy : -2147483648 ≤ y ∧ y ≤ 2147483647) : pX9_verse (cz c0) (cz l0) (cz o0) (I n0) u0 u1 u2 (I n1) (I w0) y9 (I 0) (I v) (I y) = some (I (vA (c0 v) (v - j + 1) (l0 v) (o0 v) ((l0 v + w0 - 1) / w0) y)) := by
  have b9 := k0.1
  have hk := k0.2 v q.1 q.2
  unfold pX9_verse vA
  refine obind (f9_isVerseY ⟨k0.1, hb⟩ (Or.inl ⟨rfl, q⟩)) ((if_neg (by decide)).trans ?_)
  by_cases q3 : 0 ≤ y ∧ y ≤ 4
  · have e5 : pX9_isWithin (I y) (0 : Int32) (4 : Int32) = some (I 1) := by
      have := f9_isWithin (v := y) (lo := 0) (hi := 4) (by omega)
      rw [if_pos q3] at this
      exact this
    refine obind e5 ((if_neg (by decide)).trans ?_)
    rw [f0_chapterOf (n := n0) (by omega), f0_numberOf ⟨by omega, hj.1, q⟩ (okB_c2 k0) hj.2.1 hj.2.2, f0_lettersOf (n := n0) (by omega), f0_noteOf (n := n0) (by omega), at0_in q, at0_in q, at0_in q]
    unfold pX3_widthOf
    simp (disch := omega) only [if_true, if_false, I_add, I_sub, I_mul, I_neg, I_ofNat, Option.bind_some, kIn, I_l0, I_l1, I_l2, I_l3, I_l4, I_l5, I_l6, I_l7, I_l8, I_l9, I_l10, I_l11, I_l12, I_l13, I_l40, I_l43, I_l44, I_l45, I_l48, I_l57, I_l58, I_l60, I_l61, I_l62, I_l79, I_l80, I_l100, I_l101, I_l120, I_l200, I_l201, I_l1999, I_l2000, I_l2001, I_eq, if_neg, if_pos]
    rw [f9_linesFor (by omega)]
    simp only [if_true, if_false, I_add, I_sub, I_mul, I_neg, I_ofNat, Option.bind_some, kIn, I_l0, I_l1, I_l2, I_l3, I_l4, I_l5, I_l6, I_l7, I_l8, I_l9, I_l10, I_l11, I_l12, I_l13, I_l40, I_l43, I_l44, I_l45, I_l48, I_l57, I_l58, I_l60, I_l61, I_l62, I_l79, I_l80, I_l100, I_l101, I_l120, I_l200, I_l201, I_l1999, I_l2000, I_l2001]
    by_cases y0 : y = 0
    · rw [if_pos y0, if_pos y0]
    · rw [if_neg y0, if_neg y0]
      by_cases y1 : y = 1
      · rw [if_pos y1, if_pos y1]
      · rw [if_neg y1, if_neg y1]
        by_cases y2 : y = 2
        · rw [if_pos y2, if_pos y2]
        · rw [if_neg y2, if_neg y2]
          by_cases y3 : y = 3
          · rw [if_pos y3, if_pos y3]
          · rw [if_neg y3, if_neg y3]
  · rw [if_neg (by omega : ¬ y = 0), if_neg (by omega : ¬ y = 1), if_neg (by omega : ¬ y = 2), if_neg (by omega : ¬ y = 3), if_neg (by omega : ¬ y = 4)]
    have e5 : pX9_isWithin (I y) (0 : Int32) (4 : Int32) = some (I 0) := by
      have := f9_isWithin (v := y) (lo := 0) (hi := 4) (by omega)
      rw [if_neg q3] at this
      exact this
    exact obind e5 (if_pos (by decide))
theorem t_verse1 {c1 l1 o1 : Int → Int} {n0 n1 w1 v y j : Int} {u0 u1 u2 : Nat → Int32} {y9 : Int32} (k1 : okB n1 c1 l1 o1) (hb : 0 ≤ n0 ∧ n0 ≤ 60) (hw : 1 ≤ w1 ∧ w1 ≤ 200) (q : 0 ≤ v ∧ v < n1) (hj : isF c1 (c1 v) n1 j) (hy : -2147483648 ≤ y ∧ y ≤ 2147483647) : pX9_verse u0 u1 u2 (I n0) (cz c1) (cz l1) (cz o1) (I n1) y9 (I w1) (I 1) (I v) (I y) = some (I (vA (c1 v) (v - j + 1) (l1 v) (o1 v) ((l1 v + w1 - 1) / w1) y)) := by
  have b9 := k1.1
  have hk := k1.2 v q.1 q.2
  unfold pX9_verse vA
  refine obind (f9_isVerseY ⟨hb, k1.1⟩ (Or.inr ⟨rfl, q⟩)) ((if_neg (by decide)).trans ?_)
  by_cases q3 : 0 ≤ y ∧ y ≤ 4
  · have e5 : pX9_isWithin (I y) (0 : Int32) (4 : Int32) = some (I 1) := by
      have := f9_isWithin (v := y) (lo := 0) (hi := 4) (by omega)
      rw [if_pos q3] at this
      exact this
    refine obind e5 ((if_neg (by decide)).trans ?_)
    rw [f0_chapterOf (n := n1) (by omega), f0_numberOf ⟨by omega, hj.1, q⟩ (okB_c2 k1) hj.2.1 hj.2.2, f0_lettersOf (n := n1) (by omega), f0_noteOf (n := n1) (by omega), at0_in q, at0_in q, at0_in q]
    unfold pX3_widthOf
    simp (disch := omega) only [if_true, if_false, I_add, I_sub, I_mul, I_neg, I_ofNat, Option.bind_some, kIn, I_l0, I_l1, I_l2, I_l3, I_l4, I_l5, I_l6, I_l7, I_l8, I_l9, I_l10, I_l11, I_l12, I_l13, I_l40, I_l43, I_l44, I_l45, I_l48, I_l57, I_l58, I_l60, I_l61, I_l62, I_l79, I_l80, I_l100, I_l101, I_l120, I_l200, I_l201, I_l1999, I_l2000, I_l2001, I_eq, if_neg, if_pos]
    rw [f9_linesFor (by omega)]
    simp only [if_true, if_false, I_add, I_sub, I_mul, I_neg, I_ofNat, Option.bind_some, kIn, I_l0, I_l1, I_l2, I_l3, I_l4, I_l5, I_l6, I_l7, I_l8, I_l9, I_l10, I_l11, I_l12, I_l13, I_l40, I_l43, I_l44, I_l45, I_l48, I_l57, I_l58, I_l60, I_l61, I_l62, I_l79, I_l80, I_l100, I_l101, I_l120, I_l200, I_l201, I_l1999, I_l2000, I_l2001]
    by_cases y0 : y = 0
    · rw [if_pos y0, if_pos y0]
    · rw [if_neg y0, if_neg y0]
      by_cases y1 : y = 1
      · rw [if_pos y1, if_pos y1]
      · rw [if_neg y1, if_neg y1]
        by_cases y2 : y = 2
        · rw [if_pos y2, if_pos y2]
        · rw [if_neg y2, if_neg y2]
          by_cases y3 : y = 3
          · rw [if_pos y3, if_pos y3]
          · rw [if_neg y3, if_neg y3]
  · rw [if_neg (by omega : ¬ y = 0), if_neg (by omega : ¬ y = 1), if_neg (by omega : ¬ y = 2), if_neg (by omega : ¬ y = 3), if_neg (by omega : ¬ y = 4)]
    have e5 : pX9_isWithin (I y) (0 : Int32) (4 : Int32) = some (I 0) := by
      have := f9_isWithin (v := y) (lo := 0) (hi := 4) (by omega)
      rw [if_neg q3] at this
      exact this
    exact obind e5 (if_pos (by decide))
theorem t_verseN {n0 n1 b v : Int} {u0 u1 u2 v0 v1 v2 : Nat → Int32} {y8 y9 i3 : Int32} (b0 : 0 ≤ n0 ∧ n0 ≤ 60) (b1 : 0 ≤ n1 ∧ n1 ≤ 60) (hb : -2147483648 ≤ b ∧ b ≤ 2147483647) (hv : -2147483648 ≤ v ∧ v ≤ 2147483647) (q : ¬ ((b = 0 ∧ 0 ≤ v ∧ v < n0) ∨ (b = 1 ∧ 0 ≤ v ∧ v < n1))) : pX9_verse u0 u1 u2 (I n0) v0 v1 v2 (I n1) y8 y9 (I b) (I v) i3 = some (I (-1)) := by
  unfold pX9_verse
  exact obind (f9_isVerseN (by omega) q) (if_pos (by decide))
theorem t_chapter0 {c0 l0 o0 : Int → Int} {n0 x y j : Int} {u0 u1 : Nat → Int32} {u3 : Int32} (k0 : okB n0 c0 l0 o0) (q2 : 1 ≤ x ∧ x ≤ at0 c0 n0 (n0 - 1)) (hj : isF c0 x n0 j) (hy : -2147483648 ≤ y ∧ y ≤ 2147483647) : pX9_chapter (cz c0) (cz l0) (I n0) u0 u1 u3 (I 0) (I x) (I y) = some (I (cA j (cnt c0 x n0) (cns c0 l0 x n0) y)) := by
  have b9 := k0.1
  have hd := at0_bd (F := c0) (n := n0) (lo := 0) (hi := 10) (fun i p z => by have := (k0.2 i p z).2.2.1; omega) (by omega) (n0 - 1)
  unfold pX9_chapter
  simp only [if_true, if_false, I_add, I_sub, I_mul, I_neg, I_ofNat, Option.bind_some, kIn, I_l0, I_l1, I_l2, I_l3, I_l4, I_l5, I_l6, I_l7, I_l8, I_l9, I_l10, I_l11, I_l12, I_l13, I_l40, I_l43, I_l44, I_l45, I_l48, I_l57, I_l58, I_l60, I_l61, I_l62, I_l79, I_l80, I_l100, I_l101, I_l120, I_l200, I_l201, I_l1999, I_l2000, I_l2001]
  rw [f9_isBook (by omega), if_pos (Or.inl rfl)]
  simp (disch := omega) only [if_true, if_false, I_add, I_sub, I_mul, I_neg, I_ofNat, Option.bind_some, kIn, I_l0, I_l1, I_l2, I_l3, I_l4, I_l5, I_l6, I_l7, I_l8, I_l9, I_l10, I_l11, I_l12, I_l13, I_l40, I_l43, I_l44, I_l45, I_l48, I_l57, I_l58, I_l60, I_l61, I_l62, I_l79, I_l80, I_l100, I_l101, I_l120, I_l200, I_l201, I_l1999, I_l2000, I_l2001, I_eq, if_neg, if_pos]
  rw [f0_chapterTotal (by omega)]
  simp (disch := omega) only [if_true, if_false, I_add, I_sub, I_mul, I_neg, I_ofNat, Option.bind_some, kIn, I_l0, I_l1, I_l2, I_l3, I_l4, I_l5, I_l6, I_l7, I_l8, I_l9, I_l10, I_l11, I_l12, I_l13, I_l40, I_l43, I_l44, I_l45, I_l48, I_l57, I_l58, I_l60, I_l61, I_l62, I_l79, I_l80, I_l100, I_l101, I_l120, I_l200, I_l201, I_l1999, I_l2000, I_l2001, I_eq]
  rw [f9_isWithin (by omega)]
  rw [if_pos q2]
  unfold cA
  simp (disch := omega) only [if_true, if_false, I_add, I_sub, I_mul, I_neg, I_ofNat, Option.bind_some, kIn, I_l0, I_l1, I_l2, I_l3, I_l4, I_l5, I_l6, I_l7, I_l8, I_l9, I_l10, I_l11, I_l12, I_l13, I_l40, I_l43, I_l44, I_l45, I_l48, I_l57, I_l58, I_l60, I_l61, I_l62, I_l79, I_l80, I_l100, I_l101, I_l120, I_l200, I_l201, I_l1999, I_l2000, I_l2001, I_eq, if_neg, if_pos]
  rw [f9_isWithin (by omega), f0_firstOf ⟨by omega, hj.1⟩ (by omega) (okB_c2 k0) hj.2.1 hj.2.2, f0_versesOf (by omega) (by omega) (okB_c2 k0), f0_letterSumOf (by omega) (by omega) (okB_c2 k0)]
  by_cases q3 : 0 ≤ y ∧ y ≤ 2
  · rw [if_pos q3]
    simp (disch := omega) only [if_true, if_false, I_add, I_sub, I_mul, I_neg, I_ofNat, Option.bind_some, kIn, I_l0, I_l1, I_l2, I_l3, I_l4, I_l5, I_l6, I_l7, I_l8, I_l9, I_l10, I_l11, I_l12, I_l13, I_l40, I_l43, I_l44, I_l45, I_l48, I_l57, I_l58, I_l60, I_l61, I_l62, I_l79, I_l80, I_l100, I_l101, I_l120, I_l200, I_l201, I_l1999, I_l2000, I_l2001, I_eq, if_neg, if_pos]
    by_cases y0 : y = 0
    · rw [if_pos y0, if_pos y0]
    · rw [if_neg y0, if_neg y0]
      by_cases y1 : y = 1
      · rw [if_pos y1, if_pos y1]
      · rw [if_neg y1, if_neg y1]
  · rw [if_neg q3, if_neg (by omega), if_neg (by omega), if_neg (by omega)]
    simp (disch := omega) only [if_true, if_false, I_add, I_sub, I_mul, I_neg, I_ofNat, Option.bind_some, kIn, I_l0, I_l1, I_l2, I_l3, I_l4, I_l5, I_l6, I_l7, I_l8, I_l9, I_l10, I_l11, I_l12, I_l13, I_l40, I_l43, I_l44, I_l45, I_l48, I_l57, I_l58, I_l60, I_l61, I_l62, I_l79, I_l80, I_l100, I_l101, I_l120, I_l200, I_l201, I_l1999, I_l2000, I_l2001, I_eq, if_neg, if_pos]
theorem t_chapter0N {c0 l0 o0 : Int → Int} {n0 x : Int} {u0 u1 : Nat → Int32} {u3 i3 : Int32} (k0 : okB n0 c0 l0 o0) (hx : -2147483648 ≤ x ∧ x ≤ 2147483647) (q2 : ¬ (1 ≤ x ∧ x ≤ at0 c0 n0 (n0 - 1))) : pX9_chapter (cz c0) (cz l0) (I n0) u0 u1 u3 (I 0) (I x) i3 = some (I (-1)) := by
  have b9 := k0.1
  have hd := at0_bd (F := c0) (n := n0) (lo := 0) (hi := 10) (fun i p z => by have := (k0.2 i p z).2.2.1; omega) (by omega) (n0 - 1)
  unfold pX9_chapter
  simp only [if_true, if_false, I_add, I_sub, I_mul, I_neg, I_ofNat, Option.bind_some, kIn, I_l0, I_l1, I_l2, I_l3, I_l4, I_l5, I_l6, I_l7, I_l8, I_l9, I_l10, I_l11, I_l12, I_l13, I_l40, I_l43, I_l44, I_l45, I_l48, I_l57, I_l58, I_l60, I_l61, I_l62, I_l79, I_l80, I_l100, I_l101, I_l120, I_l200, I_l201, I_l1999, I_l2000, I_l2001]
  rw [f9_isBook (by omega), if_pos (Or.inl rfl)]
  simp (disch := omega) only [if_true, if_false, I_add, I_sub, I_mul, I_neg, I_ofNat, Option.bind_some, kIn, I_l0, I_l1, I_l2, I_l3, I_l4, I_l5, I_l6, I_l7, I_l8, I_l9, I_l10, I_l11, I_l12, I_l13, I_l40, I_l43, I_l44, I_l45, I_l48, I_l57, I_l58, I_l60, I_l61, I_l62, I_l79, I_l80, I_l100, I_l101, I_l120, I_l200, I_l201, I_l1999, I_l2000, I_l2001, I_eq, if_neg, if_pos]
  rw [f0_chapterTotal (by omega)]
  simp (disch := omega) only [if_true, if_false, I_add, I_sub, I_mul, I_neg, I_ofNat, Option.bind_some, kIn, I_l0, I_l1, I_l2, I_l3, I_l4, I_l5, I_l6, I_l7, I_l8, I_l9, I_l10, I_l11, I_l12, I_l13, I_l40, I_l43, I_l44, I_l45, I_l48, I_l57, I_l58, I_l60, I_l61, I_l62, I_l79, I_l80, I_l100, I_l101, I_l120, I_l200, I_l201, I_l1999, I_l2000, I_l2001, I_eq]
  rw [f9_isWithin (by omega)]
  rw [if_neg q2]
  simp (disch := omega) only [if_true, if_false, I_add, I_sub, I_mul, I_neg, I_ofNat, Option.bind_some, kIn, I_l0, I_l1, I_l2, I_l3, I_l4, I_l5, I_l6, I_l7, I_l8, I_l9, I_l10, I_l11, I_l12, I_l13, I_l40, I_l43, I_l44, I_l45, I_l48, I_l57, I_l58, I_l60, I_l61, I_l62, I_l79, I_l80, I_l100, I_l101, I_l120, I_l200, I_l201, I_l1999, I_l2000, I_l2001, I_eq, if_neg, if_pos]
theorem t_chapter1 {c1 l1 o1 : Int → Int} {n1 x y j : Int} {u0 u1 : Nat → Int32} {u3 : Int32} (k1 : okB n1 c1 l1 o1) (q2 : 1 ≤ x ∧ x ≤ at0 c1 n1 (n1 - 1)) (hj : isF c1 x n1 j) (hy : -2147483648 ≤ y ∧ y ≤ 2147483647) : pX9_chapter u0 u1 u3 (cz c1) (cz l1) (I n1) (I 1) (I x) (I y) = some (I (cA j (cnt c1 x n1) (cns c1 l1 x n1) y)) := by
  have b9 := k1.1
  have hd := at0_bd (F := c1) (n := n1) (lo := 0) (hi := 10) (fun i p z => by have := (k1.2 i p z).2.2.1; omega) (by omega) (n1 - 1)
  unfold pX9_chapter
  simp only [if_true, if_false, I_add, I_sub, I_mul, I_neg, I_ofNat, Option.bind_some, kIn, I_l0, I_l1, I_l2, I_l3, I_l4, I_l5, I_l6, I_l7, I_l8, I_l9, I_l10, I_l11, I_l12, I_l13, I_l40, I_l43, I_l44, I_l45, I_l48, I_l57, I_l58, I_l60, I_l61, I_l62, I_l79, I_l80, I_l100, I_l101, I_l120, I_l200, I_l201, I_l1999, I_l2000, I_l2001]
  rw [f9_isBook (by omega), if_pos (Or.inr rfl)]
  simp (disch := omega) only [if_true, if_false, I_add, I_sub, I_mul, I_neg, I_ofNat, Option.bind_some, kIn, I_l0, I_l1, I_l2, I_l3, I_l4, I_l5, I_l6, I_l7, I_l8, I_l9, I_l10, I_l11, I_l12, I_l13, I_l40, I_l43, I_l44, I_l45, I_l48, I_l57, I_l58, I_l60, I_l61, I_l62, I_l79, I_l80, I_l100, I_l101, I_l120, I_l200, I_l201, I_l1999, I_l2000, I_l2001, I_eq, if_neg, if_pos]
  rw [f0_chapterTotal (by omega)]
  simp (disch := omega) only [if_true, if_false, I_add, I_sub, I_mul, I_neg, I_ofNat, Option.bind_some, kIn, I_l0, I_l1, I_l2, I_l3, I_l4, I_l5, I_l6, I_l7, I_l8, I_l9, I_l10, I_l11, I_l12, I_l13, I_l40, I_l43, I_l44, I_l45, I_l48, I_l57, I_l58, I_l60, I_l61, I_l62, I_l79, I_l80, I_l100, I_l101, I_l120, I_l200, I_l201, I_l1999, I_l2000, I_l2001, I_eq]
  rw [f9_isWithin (by omega)]
  rw [if_pos q2]
  unfold cA
  simp (disch := omega) only [if_true, if_false, I_add, I_sub, I_mul, I_neg, I_ofNat, Option.bind_some, kIn, I_l0, I_l1, I_l2, I_l3, I_l4, I_l5, I_l6, I_l7, I_l8, I_l9, I_l10, I_l11, I_l12, I_l13, I_l40, I_l43, I_l44, I_l45, I_l48, I_l57, I_l58, I_l60, I_l61, I_l62, I_l79, I_l80, I_l100, I_l101, I_l120, I_l200, I_l201, I_l1999, I_l2000, I_l2001, I_eq, if_neg, if_pos]
  rw [f9_isWithin (by omega), f0_firstOf ⟨by omega, hj.1⟩ (by omega) (okB_c2 k1) hj.2.1 hj.2.2, f0_versesOf (by omega) (by omega) (okB_c2 k1), f0_letterSumOf (by omega) (by omega) (okB_c2 k1)]
  by_cases q3 : 0 ≤ y ∧ y ≤ 2
  · rw [if_pos q3]
    simp (disch := omega) only [if_true, if_false, I_add, I_sub, I_mul, I_neg, I_ofNat, Option.bind_some, kIn, I_l0, I_l1, I_l2, I_l3, I_l4, I_l5, I_l6, I_l7, I_l8, I_l9, I_l10, I_l11, I_l12, I_l13, I_l40, I_l43, I_l44, I_l45, I_l48, I_l57, I_l58, I_l60, I_l61, I_l62, I_l79, I_l80, I_l100, I_l101, I_l120, I_l200, I_l201, I_l1999, I_l2000, I_l2001, I_eq, if_neg, if_pos]
    by_cases y0 : y = 0
    · rw [if_pos y0, if_pos y0]
    · rw [if_neg y0, if_neg y0]
      by_cases y1 : y = 1
      · rw [if_pos y1, if_pos y1]
      · rw [if_neg y1, if_neg y1]
  · rw [if_neg q3, if_neg (by omega), if_neg (by omega), if_neg (by omega)]
    simp (disch := omega) only [if_true, if_false, I_add, I_sub, I_mul, I_neg, I_ofNat, Option.bind_some, kIn, I_l0, I_l1, I_l2, I_l3, I_l4, I_l5, I_l6, I_l7, I_l8, I_l9, I_l10, I_l11, I_l12, I_l13, I_l40, I_l43, I_l44, I_l45, I_l48, I_l57, I_l58, I_l60, I_l61, I_l62, I_l79, I_l80, I_l100, I_l101, I_l120, I_l200, I_l201, I_l1999, I_l2000, I_l2001, I_eq, if_neg, if_pos]
theorem t_chapter1N {c1 l1 o1 : Int → Int} {n1 x : Int} {u0 u1 : Nat → Int32} {u3 i3 : Int32} (k1 : okB n1 c1 l1 o1) (hx : -2147483648 ≤ x ∧ x ≤ 2147483647) (q2 : ¬ (1 ≤ x ∧ x ≤ at0 c1 n1 (n1 - 1))) : pX9_chapter u0 u1 u3 (cz c1) (cz l1) (I n1) (I 1) (I x) i3 = some (I (-1)) := by
  have b9 := k1.1
  have hd := at0_bd (F := c1) (n := n1) (lo := 0) (hi := 10) (fun i p z => by have := (k1.2 i p z).2.2.1; omega) (by omega) (n1 - 1)
  unfold pX9_chapter
  simp only [if_true, if_false, I_add, I_sub, I_mul, I_neg, I_ofNat, Option.bind_some, kIn, I_l0, I_l1, I_l2, I_l3, I_l4, I_l5, I_l6, I_l7, I_l8, I_l9, I_l10, I_l11, I_l12, I_l13, I_l40, I_l43, I_l44, I_l45, I_l48, I_l57, I_l58, I_l60, I_l61, I_l62, I_l79, I_l80, I_l100, I_l101, I_l120, I_l200, I_l201, I_l1999, I_l2000, I_l2001]
  rw [f9_isBook (by omega), if_pos (Or.inr rfl)]
  simp (disch := omega) only [if_true, if_false, I_add, I_sub, I_mul, I_neg, I_ofNat, Option.bind_some, kIn, I_l0, I_l1, I_l2, I_l3, I_l4, I_l5, I_l6, I_l7, I_l8, I_l9, I_l10, I_l11, I_l12, I_l13, I_l40, I_l43, I_l44, I_l45, I_l48, I_l57, I_l58, I_l60, I_l61, I_l62, I_l79, I_l80, I_l100, I_l101, I_l120, I_l200, I_l201, I_l1999, I_l2000, I_l2001, I_eq, if_neg, if_pos]
  rw [f0_chapterTotal (by omega)]
  simp (disch := omega) only [if_true, if_false, I_add, I_sub, I_mul, I_neg, I_ofNat, Option.bind_some, kIn, I_l0, I_l1, I_l2, I_l3, I_l4, I_l5, I_l6, I_l7, I_l8, I_l9, I_l10, I_l11, I_l12, I_l13, I_l40, I_l43, I_l44, I_l45, I_l48, I_l57, I_l58, I_l60, I_l61, I_l62, I_l79, I_l80, I_l100, I_l101, I_l120, I_l200, I_l201, I_l1999, I_l2000, I_l2001, I_eq]
  rw [f9_isWithin (by omega)]
  rw [if_neg q2]
  simp (disch := omega) only [if_true, if_false, I_add, I_sub, I_mul, I_neg, I_ofNat, Option.bind_some, kIn, I_l0, I_l1, I_l2, I_l3, I_l4, I_l5, I_l6, I_l7, I_l8, I_l9, I_l10, I_l11, I_l12, I_l13, I_l40, I_l43, I_l44, I_l45, I_l48, I_l57, I_l58, I_l60, I_l61, I_l62, I_l79, I_l80, I_l100, I_l101, I_l120, I_l200, I_l201, I_l1999, I_l2000, I_l2001, I_eq, if_neg, if_pos]
def bA (j f s x : Int) : Int := if x = 0 then j else if x = 1 then (if s = 0 then -5 else f) else if x = 2 then (if s = 0 then -5 else f + s - 1) else -2
theorem t_beside {L R : Int → Int} {n0 n1 g b v x j : Int} (b0 : 0 ≤ n0 ∧ n0 ≤ 60) (b1 : 0 ≤ n1 ∧ n1 ≤ 60) (kM : okM g L R n0 n1) (hx : -2147483648 ≤ x ∧ x ≤ 2147483647) (q : (b = 0 ∧ 0 ≤ v ∧ v < n0) ∨ (b = 1 ∧ 0 ≤ v ∧ v < n1)) (j0 : 0 ≤ j ∧ j < g) (j1 : Sm (sel b L R) j ≤ v) (j2 : v < Sm (sel b L R) (j + 1)) : pX9_beside (I n0) (I n1) (cz L) (cz R) (I g) (I b) (I v) (I x) = some (I (bA j (Sm (sel (1 - b) L R) j) (sel (1 - b) L R j) x)) := by
  have hg := kM.1
  unfold pX9_beside bA
  simp only [if_true, if_false, I_add, I_sub, I_mul, I_neg, I_ofNat, Option.bind_some, kIn, I_l0, I_l1, I_l2, I_l3, I_l4, I_l5, I_l6, I_l7, I_l8, I_l9, I_l10, I_l11, I_l12, I_l13, I_l40, I_l43, I_l44, I_l45, I_l48, I_l57, I_l58, I_l60, I_l61, I_l62, I_l79, I_l80, I_l100, I_l101, I_l120, I_l200, I_l201, I_l1999, I_l2000, I_l2001]
  rw [f9_isVerseY ⟨b0, b1⟩ q]
  simp (disch := omega) only [if_true, if_false, I_add, I_sub, I_mul, I_neg, I_ofNat, Option.bind_some, kIn, I_l0, I_l1, I_l2, I_l3, I_l4, I_l5, I_l6, I_l7, I_l8, I_l9, I_l10, I_l11, I_l12, I_l13, I_l40, I_l43, I_l44, I_l45, I_l48, I_l57, I_l58, I_l60, I_l61, I_l62, I_l79, I_l80, I_l100, I_l101, I_l120, I_l200, I_l201, I_l1999, I_l2000, I_l2001, I_eq, if_pos, if_neg]
  by_cases q2 : 0 ≤ x ∧ x ≤ 2
  · rw [f9_isWithin (by omega), if_pos q2]
    simp (disch := omega) only [if_true, if_false, I_add, I_sub, I_mul, I_neg, I_ofNat, Option.bind_some, kIn, I_l0, I_l1, I_l2, I_l3, I_l4, I_l5, I_l6, I_l7, I_l8, I_l9, I_l10, I_l11, I_l12, I_l13, I_l40, I_l43, I_l44, I_l45, I_l48, I_l57, I_l58, I_l60, I_l61, I_l62, I_l79, I_l80, I_l100, I_l101, I_l120, I_l200, I_l201, I_l1999, I_l2000, I_l2001, I_eq, if_pos, if_neg]
    have hb1 : 0 ≤ b ∧ b ≤ 1 := by omega
    have hF : ∀ i, 0 ≤ i → i < g → 0 ≤ sel b L R i ∧ sel b L R i ≤ 1000 := fun i p z => by have := okM_S (b := b) kM i p z; omega
    have ob : (if b = 0 then (1 : Int) else 0) = 1 - b := by split <;> omega
    have hO := okM_S (b := 1 - b) kM j j0.1 j0.2
    rw [f1_groupOf (L := L) (R := R) (b := b) ⟨hg, by omega, j0, by omega⟩ hF j1 j2, f9_otherBook (by omega), ob]
    simp (disch := omega) only [if_true, if_false, I_add, I_sub, I_mul, I_neg, I_ofNat, Option.bind_some, kIn, I_l0, I_l1, I_l2, I_l3, I_l4, I_l5, I_l6, I_l7, I_l8, I_l9, I_l10, I_l11, I_l12, I_l13, I_l40, I_l43, I_l44, I_l45, I_l48, I_l57, I_l58, I_l60, I_l61, I_l62, I_l79, I_l80, I_l100, I_l101, I_l120, I_l200, I_l201, I_l1999, I_l2000, I_l2001, I_eq]
    rw [f1_sizeOf (by omega), at0_in j0, f1_firstOf (by omega)]
    simp (disch := omega) only [if_true, if_false, I_add, I_sub, I_mul, I_neg, I_ofNat, Option.bind_some, kIn, I_l0, I_l1, I_l2, I_l3, I_l4, I_l5, I_l6, I_l7, I_l8, I_l9, I_l10, I_l11, I_l12, I_l13, I_l40, I_l43, I_l44, I_l45, I_l48, I_l57, I_l58, I_l60, I_l61, I_l62, I_l79, I_l80, I_l100, I_l101, I_l120, I_l200, I_l201, I_l1999, I_l2000, I_l2001, I_eq]
    by_cases y0 : x = 0
    · rw [if_pos y0, if_pos y0]
    · rw [if_neg y0, if_neg y0]
      by_cases y1 : sel (1 - b) L R j = 0
      · rw [if_pos y1, if_pos y1, if_pos y1]
        by_cases y2 : x = 1
        · rw [if_pos y2]
        · rw [if_neg y2]
      · rw [if_neg y1, if_neg y1, if_neg y1]
        by_cases y2 : x = 1
        · rw [if_pos y2, if_pos y2]
        · rw [if_neg y2, if_neg y2]
  · rw [f9_isWithin (by omega), if_neg q2]
    simp (disch := omega) only [if_true, if_false, I_add, I_sub, I_mul, I_neg, I_ofNat, Option.bind_some, kIn, I_l0, I_l1, I_l2, I_l3, I_l4, I_l5, I_l6, I_l7, I_l8, I_l9, I_l10, I_l11, I_l12, I_l13, I_l40, I_l43, I_l44, I_l45, I_l48, I_l57, I_l58, I_l60, I_l61, I_l62, I_l79, I_l80, I_l100, I_l101, I_l120, I_l200, I_l201, I_l1999, I_l2000, I_l2001, I_eq, if_pos, if_neg]
theorem t_besideN {L R : Nat → Int32} {n0 n1 b v : Int} {g i3 : Int32} (b0 : 0 ≤ n0 ∧ n0 ≤ 60) (b1 : 0 ≤ n1 ∧ n1 ≤ 60) (hb : -2147483648 ≤ b ∧ b ≤ 2147483647) (hv : -2147483648 ≤ v ∧ v ≤ 2147483647) (q : ¬ ((b = 0 ∧ 0 ≤ v ∧ v < n0) ∨ (b = 1 ∧ 0 ≤ v ∧ v < n1))) : pX9_beside (I n0) (I n1) L R g (I b) (I v) i3 = some (I (-1)) := by
  unfold pX9_beside
  simp only [if_true, if_false, I_add, I_sub, I_mul, I_neg, I_ofNat, Option.bind_some, kIn, I_l0, I_l1, I_l2, I_l3, I_l4, I_l5, I_l6, I_l7, I_l8, I_l9, I_l10, I_l11, I_l12, I_l13, I_l40, I_l43, I_l44, I_l45, I_l48, I_l57, I_l58, I_l60, I_l61, I_l62, I_l79, I_l80, I_l100, I_l101, I_l120, I_l200, I_l201, I_l1999, I_l2000, I_l2001]
  rw [f9_isVerseN (by omega) q]
  simp (disch := omega) only [if_true, if_false, I_add, I_sub, I_mul, I_neg, I_ofNat, Option.bind_some, kIn, I_l0, I_l1, I_l2, I_l3, I_l4, I_l5, I_l6, I_l7, I_l8, I_l9, I_l10, I_l11, I_l12, I_l13, I_l40, I_l43, I_l44, I_l45, I_l48, I_l57, I_l58, I_l60, I_l61, I_l62, I_l79, I_l80, I_l100, I_l101, I_l120, I_l200, I_l201, I_l1999, I_l2000, I_l2001, I_eq, if_pos, if_neg]
