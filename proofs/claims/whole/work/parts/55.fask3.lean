-- a verse asked: both sides alike
theorem f10_verseV {W w c l o : Int → Int} {b n v y j : Int} (hb : 0 ≤ b ∧ b ≤ 1) (hv : 0 ≤ v ∧ v < n) (hy : -2147483648 ≤ y ∧ y ≤ 2147483647) (hB : rB W b n c l o) (ho : okB n c l o) (hj : isF c (c v) n j) (hw : -100000 ≤ w b ∧ w b ≤ 100000) (hw2 : 1 ≤ wdt w b ∧ wdt w b ≤ 200) (e1 : pX10_noVerse (cz W) (I b) (I v) = some (I 0)) : pX10_verse (cz W) (cz w) (I b) (I v) (I y) = some (I (if y = 0 then c v else if y = 1 then v - j + 1 else if y = 2 then l v else if y = 3 then o v else if y = 4 then (l v + wdt w b - 1) / wdt w b else -2)) := by
  have hn := ho.1
  have hk := ho.2 v hv.1 hv.2
  have hr := hB.2.2 v hv.1 hv.2
  have hr2 : W (120 + (60 * b + v)) = o v := by rw [show 120 + (60 * b + v) = 120 + 60 * b + v by omega]; exact hr.2.1
  unfold pX10_verse
  refine obind e1 ((if_pos (by decide)).trans ?_)
  rw [f10_chapterOf (by omega) hB, f10_linesOf (by omega) hB hk.1 hw hw2]
  simp (disch := omega) only [if_true, if_false, I_add, I_sub, I_mul, I_neg, I_ofNat, Option.bind_some, kIn, I_l0, I_l1, I_l2, I_l3, I_l4, I_l5, I_l6, I_l8, I_l9, I_l10, I_l11, I_l32, I_l40, I_l43, I_l44, I_l45, I_l48, I_l49, I_l57, I_l58, I_l60, I_l61, I_l62, I_l79, I_l80, I_l100, I_l120, I_l180, I_l200, I_l240, I_l300, I_l360, I_l361, I_l362, I_l363, I_l364, I_l365, I_l485, I_l605, I_l1999, I_l2000, I_eq, I_le, I_lt, I_toInt, cz_at]
  rw [f10_firstOf ⟨hb, hn, hj.1⟩ (by omega) hB (okB_c2 ho) hj.2.1 hj.2.2, hr.1, hr2]
  simp (disch := omega) only [if_true, if_false, I_add, I_sub, I_mul, I_neg, I_ofNat, Option.bind_some, kIn, I_l0, I_l1, I_l2, I_l3, I_l4, I_l5, I_l6, I_l8, I_l9, I_l10, I_l11, I_l32, I_l40, I_l43, I_l44, I_l45, I_l48, I_l49, I_l57, I_l58, I_l60, I_l61, I_l62, I_l79, I_l80, I_l100, I_l120, I_l180, I_l200, I_l240, I_l300, I_l360, I_l361, I_l362, I_l363, I_l364, I_l365, I_l485, I_l605, I_l1999, I_l2000, if_pos]
  by_cases y0 : y = 0
  · rw [if_pos y0, if_pos y0]
  · rw [if_neg y0, if_neg y0]
    by_cases y1 : y = 1
    · rw [if_pos y1, if_pos y1]
    · rw [if_neg y1, if_neg y1]
      by_cases y2 : y = 2
      · rw [if_pos y2, if_pos y2]
      · rw [if_neg y2, if_neg y2]
        by_cases y3 : y = 3
        · rw [if_pos y3, if_pos y3]
        · rw [if_neg y3, if_neg y3]
          by_cases y4 : y = 4
          · rw [if_pos y4, if_pos y4]
          · rw [if_neg y4, if_neg y4]
section ASK3
variable {W : Int → Int} {vL0 vL1 vL2 : Nat → Int32} {vL3 : Int32} {vR0 vR1 vR2 : Nat → Int32} {vR3 : Int32} {vM0 vM1 : Nat → Int32} {vM2 : Int32} {y0 y1 : Int32} {w : Int → Int}
theorem e_verse (hS : rS ((vL0, vL1, vL2, vL3), (vR0, vR1, vR2, vR3), (vM0, vM1, vM2)) W) (hW : rW y0 y1 w) (i1 i2 i3 : Int32) : ∃ a : Int32, pX9_verse vL0 vL1 vL2 vL3 vR0 vR1 vR2 vR3 y0 y1 i1 i2 i3 = some a ∧ pX10_verse (cz W) (cz w) i1 i2 i3 = some a := by
  obtain ⟨b, hb, rfl⟩ := I_of i1
  obtain ⟨v, hv, rfl⟩ := I_of i2
  obtain ⟨y, hy, rfl⟩ := I_of i3
  obtain ⟨c0, l0, o0, n0, c1, l1, o1, n1, L, R, g, e, k0, k1, kM, r0, r1, rm⟩ := id hS
  simp only [Prod.mk.injEq] at e
  obtain ⟨⟨rfl, rfl, rfl, rfl⟩, ⟨rfl, rfl, rfl, rfl⟩, rfl, rfl, rfl⟩ := e
  have b0 := k0.1
  have b1 := k1.1
  have hd := hW.bd
  obtain ⟨rfl, rfl, w0, w1⟩ := id hW
  unfold pX9_verse
  simp only [if_true, if_false, I_add, I_sub, I_mul, I_neg, I_ofNat, Option.bind_some, kIn, I_l0, I_l1, I_l2, I_l3, I_l4, I_l5, I_l6, I_l8, I_l9, I_l10, I_l11, I_l32, I_l40, I_l43, I_l44, I_l45, I_l48, I_l49, I_l57, I_l58, I_l60, I_l61, I_l62, I_l79, I_l80, I_l100, I_l120, I_l180, I_l200, I_l240, I_l300, I_l360, I_l361, I_l362, I_l363, I_l364, I_l365, I_l485, I_l605, I_l1999, I_l2000]
  by_cases q : (b = 0 ∧ 0 ≤ v ∧ v < n0) ∨ (b = 1 ∧ 0 ≤ v ∧ v < n1)
  · have hN := f10_noVerseY (W := W) ⟨b0, b1⟩ r0.1 r1.1 q
    have hY := f9_isVerseY ⟨b0, b1⟩ q
    rcases q with ⟨rfl, q⟩ | ⟨rfl, q⟩
    · have hk := k0.2 v q.1 q.2
      obtain ⟨j, hj⟩ := ex_F (P := c0) (p := c0 v) (g := n0) ⟨v, q.1, q.2, rfl⟩
      refine ⟨_, ?_, f10_verseV (by omega) q hy r0 k0 hj (by omega) (by omega) hN⟩
      refine obind hY ((if_neg (by decide)).trans ?_)
      by_cases q3 : 0 ≤ y ∧ y ≤ 4
      · rw [f9_isWithin (by omega), f0_chapterOf (n := n0) (by omega), f0_numberOf ⟨by omega, hj.1, q⟩ (okB_c2 k0) hj.2.1 hj.2.2, f0_lettersOf (n := n0) (by omega), f0_noteOf (n := n0) (by omega), at0_in q, at0_in q, at0_in q, if_pos q3]
        unfold pX3_widthOf
        simp (disch := omega) only [if_true, if_false, I_add, I_sub, I_mul, I_neg, I_ofNat, Option.bind_some, kIn, I_l0, I_l1, I_l2, I_l3, I_l4, I_l5, I_l6, I_l8, I_l9, I_l10, I_l11, I_l32, I_l40, I_l43, I_l44, I_l45, I_l48, I_l49, I_l57, I_l58, I_l60, I_l61, I_l62, I_l79, I_l80, I_l100, I_l120, I_l180, I_l200, I_l240, I_l300, I_l360, I_l361, I_l362, I_l363, I_l364, I_l365, I_l485, I_l605, I_l1999, I_l2000, I_eq, if_neg, if_pos]
        rw [f9_linesFor (by omega)]
        simp only [if_true, if_false, I_add, I_sub, I_mul, I_neg, I_ofNat, Option.bind_some, kIn, I_l0, I_l1, I_l2, I_l3, I_l4, I_l5, I_l6, I_l8, I_l9, I_l10, I_l11, I_l32, I_l40, I_l43, I_l44, I_l45, I_l48, I_l49, I_l57, I_l58, I_l60, I_l61, I_l62, I_l79, I_l80, I_l100, I_l120, I_l180, I_l200, I_l240, I_l300, I_l360, I_l361, I_l362, I_l363, I_l364, I_l365, I_l485, I_l605, I_l1999, I_l2000]
        by_cases y0 : y = 0
        · rw [if_pos y0, if_pos y0]
        · rw [if_neg y0, if_neg y0]
          by_cases y1 : y = 1
          · rw [if_pos y1, if_pos y1]
          · rw [if_neg y1, if_neg y1]
            by_cases y2 : y = 2
            · rw [if_pos y2, if_pos y2]
            · rw [if_neg y2, if_neg y2]
              by_cases y3 : y = 3
              · rw [if_pos y3, if_pos y3]
              · rw [if_neg y3, if_neg y3]
      · rw [if_neg (by omega : ¬ y = 0), if_neg (by omega : ¬ y = 1), if_neg (by omega : ¬ y = 2), if_neg (by omega : ¬ y = 3), if_neg (by omega : ¬ y = 4)]
        have e5 : pX9_isWithin (I y) (I 0) (I 4) = some (I 0) := by rw [f9_isWithin (by omega), if_neg q3]
        exact obind e5 (if_pos (by decide))
    · have hk := k1.2 v q.1 q.2
      obtain ⟨j, hj⟩ := ex_F (P := c1) (p := c1 v) (g := n1) ⟨v, q.1, q.2, rfl⟩
      refine ⟨_, ?_, f10_verseV (by omega) q hy r1 k1 hj (by omega) (by omega) hN⟩
      refine obind hY ((if_neg (by decide)).trans ?_)
      by_cases q3 : 0 ≤ y ∧ y ≤ 4
      · rw [f9_isWithin (by omega), f0_chapterOf (n := n1) (by omega), f0_numberOf ⟨by omega, hj.1, q⟩ (okB_c2 k1) hj.2.1 hj.2.2, f0_lettersOf (n := n1) (by omega), f0_noteOf (n := n1) (by omega), at0_in q, at0_in q, at0_in q, if_pos q3]
        unfold pX3_widthOf
        simp (disch := omega) only [if_true, if_false, I_add, I_sub, I_mul, I_neg, I_ofNat, Option.bind_some, kIn, I_l0, I_l1, I_l2, I_l3, I_l4, I_l5, I_l6, I_l8, I_l9, I_l10, I_l11, I_l32, I_l40, I_l43, I_l44, I_l45, I_l48, I_l49, I_l57, I_l58, I_l60, I_l61, I_l62, I_l79, I_l80, I_l100, I_l120, I_l180, I_l200, I_l240, I_l300, I_l360, I_l361, I_l362, I_l363, I_l364, I_l365, I_l485, I_l605, I_l1999, I_l2000, I_eq, if_neg, if_pos]
        rw [f9_linesFor (by omega)]
        simp only [if_true, if_false, I_add, I_sub, I_mul, I_neg, I_ofNat, Option.bind_some, kIn, I_l0, I_l1, I_l2, I_l3, I_l4, I_l5, I_l6, I_l8, I_l9, I_l10, I_l11, I_l32, I_l40, I_l43, I_l44, I_l45, I_l48, I_l49, I_l57, I_l58, I_l60, I_l61, I_l62, I_l79, I_l80, I_l100, I_l120, I_l180, I_l200, I_l240, I_l300, I_l360, I_l361, I_l362, I_l363, I_l364, I_l365, I_l485, I_l605, I_l1999, I_l2000]
        by_cases y0 : y = 0
        · rw [if_pos y0, if_pos y0]
        · rw [if_neg y0, if_neg y0]
          by_cases y1 : y = 1
          · rw [if_pos y1, if_pos y1]
          · rw [if_neg y1, if_neg y1]
            by_cases y2 : y = 2
            · rw [if_pos y2, if_pos y2]
            · rw [if_neg y2, if_neg y2]
              by_cases y3 : y = 3
              · rw [if_pos y3, if_pos y3]
              · rw [if_neg y3, if_neg y3]
      · rw [if_neg (by omega : ¬ y = 0), if_neg (by omega : ¬ y = 1), if_neg (by omega : ¬ y = 2), if_neg (by omega : ¬ y = 3), if_neg (by omega : ¬ y = 4)]
        have e5 : pX9_isWithin (I y) (I 0) (I 4) = some (I 0) := by rw [f9_isWithin (by omega), if_neg q3]
        exact obind e5 (if_pos (by decide))
  · refine ⟨I (-1), ?_, ?_⟩
    · exact obind (f9_isVerseN (by omega) q) (if_pos (by decide))
    · unfold pX10_verse
      exact obind (f10_noVerseX (by omega) r0.1 r1.1 q) (if_neg (by decide))
end ASK3
