-- the reference: a page asked
theorem f10_page_L {W w P B20 B21 B22 : Int → Int} {g ph h p y j j2 : Int} {c18 : Int32} (hg : 0 ≤ g ∧ g ≤ 120) (w364 : W 364 = g) (hp : 0 ≤ p ∧ p < 120) (hy : 0 ≤ y ∧ y ≤ 4) (hb : ∀ i, 0 ≤ i → i < g → -1000 ≤ P i ∧ P i ≤ 1000) (hj : isF P p g j) (hj2 : isL P p g j2) (hA : 0 ≤ B21 p ∧ B21 p ≤ 1000000000) (hN : 0 ≤ B22 p ∧ B22 p ≤ 1000000000) (hph : 0 ≤ ph ∧ ph ≤ 100000) : ∀ (m : Nat) (a z k : Int), 0 ≤ k → k ≤ g → g - k < m → (k ≤ j → a = -5) → (j < k → a = j) → (j2 < k → z = j2) → pX10_page_L41 (cz W) (cz w) (I ph) (I h) m c18 (cz P) (cz B20) (cz B21) (cz B22) (I p) (I y) (I a) (I z) (I k) = some (I (if y = 0 then j else if y = 1 then j2 else if y = 2 then B21 p else if y = 3 then wl (B22 p) else if B21 p + wl (B22 p) ≤ ph then 0 else 1), c18, cz P, cz B20, cz B21, cz B22) := by
  obtain ⟨jb, jp, jf⟩ := hj
  obtain ⟨lb, lp, lf⟩ := hj2
  have hwl := wl_bd hN.1
  intro m
  induction m with
  | zero => intro a z k h0 h1 h2; omega
  | succ m ih =>
    intro a z k h0 h1 h2 ha1 ha2 hz
    show pX10_page_bL41 _ _ _ _ _ _ _ _ _ _ _ _ _ _ _ = _
    unfold pX10_page_bL41 pX10_page_j70 pX10_page_j71 pX10_page_j90
    rw [f10_groups, w364]
    have hab : a = -5 ∨ a = j := by omega
    by_cases q : k = g
    · subst q
      have e1 := ha2 jb.2
      have e2 := hz lb.2
      subst e1 e2
      simp (disch := omega) only [if_true, if_false, I_add, I_sub, I_mul, I_neg, I_ofNat, Option.bind_some, kIn, I_l0, I_l1, I_l2, I_l3, I_l4, I_l5, I_l6, I_l8, I_l9, I_l10, I_l11, I_l32, I_l40, I_l43, I_l44, I_l45, I_l48, I_l49, I_l57, I_l58, I_l60, I_l61, I_l62, I_l79, I_l80, I_l100, I_l120, I_l180, I_l200, I_l240, I_l300, I_l360, I_l361, I_l362, I_l363, I_l364, I_l365, I_l485, I_l605, I_l1999, I_l2000, I_le, I_lt, I_eq, I_toInt, cz_at, if_pos]
      rw [f10_withLine (by omega)]
      simp (disch := omega) only [if_true, if_false, I_add, I_sub, I_mul, I_neg, I_ofNat, Option.bind_some, kIn, I_l0, I_l1, I_l2, I_l3, I_l4, I_l5, I_l6, I_l8, I_l9, I_l10, I_l11, I_l32, I_l40, I_l43, I_l44, I_l45, I_l48, I_l49, I_l57, I_l58, I_l60, I_l61, I_l62, I_l79, I_l80, I_l100, I_l120, I_l180, I_l200, I_l240, I_l300, I_l360, I_l361, I_l362, I_l363, I_l364, I_l365, I_l485, I_l605, I_l1999, I_l2000, I_le]
      by_cases y0 : y = 0
      · rw [if_pos y0, if_pos y0]
      · rw [if_neg y0, if_neg y0]
        by_cases y1 : y = 1
        · rw [if_pos y1, if_pos y1]
        · rw [if_neg y1, if_neg y1]
          by_cases y2 : y = 2
          · rw [if_pos y2, if_pos y2]
          · rw [if_neg y2, if_neg y2]
            by_cases y3 : y = 3
            · rw [if_pos y3, if_pos y3]
            · rw [if_neg y3, if_neg y3]
              by_cases y4 : B21 p + wl (B22 p) ≤ ph
              · rw [if_pos y4, if_pos y4]
              · rw [if_neg y4, if_neg y4]
    · have hk := hb k h0 (by omega)
      simp (disch := omega) only [if_true, if_false, I_add, I_sub, I_mul, I_neg, I_ofNat, Option.bind_some, kIn, I_l0, I_l1, I_l2, I_l3, I_l4, I_l5, I_l6, I_l8, I_l9, I_l10, I_l11, I_l32, I_l40, I_l43, I_l44, I_l45, I_l48, I_l49, I_l57, I_l58, I_l60, I_l61, I_l62, I_l79, I_l80, I_l100, I_l120, I_l180, I_l200, I_l240, I_l300, I_l360, I_l361, I_l362, I_l363, I_l364, I_l365, I_l485, I_l605, I_l1999, I_l2000, I_le, I_lt, I_eq, I_toInt, cz_at, if_pos, if_neg]
      by_cases z1 : P k = p
      · have hjk : j ≤ k := by
          by_cases t : j ≤ k
          · exact t
          · exact absurd z1 (jf k h0 (by omega))
        have hkl : k ≤ j2 := by
          by_cases t : k ≤ j2
          · exact t
          · exact absurd z1 (lf k (by omega) (by omega))
        by_cases z2 : 0 ≤ a
        · simp only [if_pos z1, if_pos z2]
          exact ih _ _ _ (by omega) (by omega) (by omega) (by omega) (by omega) (by omega)
        · simp only [if_pos z1, if_neg z2]
          exact ih _ _ _ (by omega) (by omega) (by omega) (by omega) (by omega) (by omega)
      · have n1 : ¬ k = j := fun t => z1 (by rw [t]; exact jp)
        have n2 : ¬ k = j2 := fun t => z1 (by rw [t]; exact lp)
        simp only [if_neg z1]
        exact ih _ _ _ (by omega) (by omega) (by omega) (by omega) (by omega) (by omega)
