-- the static methods of VerseColumns
theorem f9_isBook {a : Int} (h : -2147483648 ≤ a ∧ a ≤ 2147483647) : pX9_isBook (I a) = some (I (if a = 0 ∨ a = 1 then 1 else 0)) := by
  unfold pX9_isBook
  simp (disch := omega) only [if_true, if_false, I_add, I_sub, I_mul, I_neg, I_ofNat, Option.bind_some, kIn, I_l0, I_l1, I_l2, I_l3, I_l4, I_l5, I_l6, I_l8, I_l9, I_l10, I_l11, I_l32, I_l40, I_l43, I_l44, I_l45, I_l48, I_l49, I_l57, I_l58, I_l60, I_l61, I_l62, I_l79, I_l80, I_l100, I_l120, I_l180, I_l200, I_l240, I_l300, I_l360, I_l361, I_l362, I_l363, I_l364, I_l365, I_l485, I_l605, I_l1999, I_l2000, I_le, I_lt, I_eq, I_toInt, cz_at, cz_up, if_pos, if_neg]
  repeat' split
  all_goals first | rfl | (exfalso; omega)
theorem f9_otherBook {a : Int} (h : -2147483648 ≤ a ∧ a ≤ 2147483647) : pX9_otherBook (I a) = some (I (if a = 0 then 1 else 0)) := by
  unfold pX9_otherBook
  simp (disch := omega) only [if_true, if_false, I_add, I_sub, I_mul, I_neg, I_ofNat, Option.bind_some, kIn, I_l0, I_l1, I_l2, I_l3, I_l4, I_l5, I_l6, I_l8, I_l9, I_l10, I_l11, I_l32, I_l40, I_l43, I_l44, I_l45, I_l48, I_l49, I_l57, I_l58, I_l60, I_l61, I_l62, I_l79, I_l80, I_l100, I_l120, I_l180, I_l200, I_l240, I_l300, I_l360, I_l361, I_l362, I_l363, I_l364, I_l365, I_l485, I_l605, I_l1999, I_l2000, I_le, I_lt, I_eq, I_toInt, cz_at, cz_up, if_pos, if_neg]
  repeat' split
  all_goals first | rfl | (exfalso; omega)
theorem f9_isWithin {v lo hi : Int} (h : (-2147483648 ≤ v ∧ v ≤ 2147483647) ∧ (-2147483648 ≤ lo ∧ lo ≤ 2147483647) ∧ (-2147483648 ≤ hi ∧ hi ≤ 2147483647)) : pX9_isWithin (I v) (I lo) (I hi) = some (I (if lo ≤ v ∧ v ≤ hi then 1 else 0)) := by
  unfold pX9_isWithin
  simp (disch := omega) only [if_true, if_false, I_add, I_sub, I_mul, I_neg, I_ofNat, Option.bind_some, kIn, I_l0, I_l1, I_l2, I_l3, I_l4, I_l5, I_l6, I_l8, I_l9, I_l10, I_l11, I_l32, I_l40, I_l43, I_l44, I_l45, I_l48, I_l49, I_l57, I_l58, I_l60, I_l61, I_l62, I_l79, I_l80, I_l100, I_l120, I_l180, I_l200, I_l240, I_l300, I_l360, I_l361, I_l362, I_l363, I_l364, I_l365, I_l485, I_l605, I_l1999, I_l2000, I_le, I_lt, I_eq, I_toInt, cz_at, cz_up, if_pos, if_neg]
  repeat' split
  all_goals first | rfl | (exfalso; omega)
theorem f9_linesFor {a w : Int} (h : (0 ≤ a ∧ a ≤ 100000) ∧ 1 ≤ w ∧ w ≤ 100000) : pX9_linesFor (I a) (I w) = some (I ((a + w - 1) / w)) := by
  unfold pX9_linesFor
  simp (disch := omega) only [if_true, if_false, I_add, I_sub, I_mul, I_neg, I_ofNat, Option.bind_some, kIn, I_l0, I_l1, I_l2, I_l3, I_l4, I_l5, I_l6, I_l8, I_l9, I_l10, I_l11, I_l32, I_l40, I_l43, I_l44, I_l45, I_l48, I_l49, I_l57, I_l58, I_l60, I_l61, I_l62, I_l79, I_l80, I_l100, I_l120, I_l180, I_l200, I_l240, I_l300, I_l360, I_l361, I_l362, I_l363, I_l364, I_l365, I_l485, I_l605, I_l1999, I_l2000, I_le, I_lt, I_eq, I_toInt, cz_at, cz_up, if_pos, if_neg, I_div]
theorem f9_cellOf {nF : Nat} {F : Int → Int} {a : Int} (h : nF ≤ 3025 ∧ -2147483648 ≤ a ∧ a ≤ 2147483647) : pX9_cellOf nF (cz F) (I a) = some (I (at0 F nF a)) := by
  unfold pX9_cellOf
  by_cases g : 0 ≤ a ∧ a < nF
  · rw [at0_in g]
    simp (disch := omega) only [if_true, if_false, I_add, I_sub, I_mul, I_neg, I_ofNat, Option.bind_some, kIn, I_l0, I_l1, I_l2, I_l3, I_l4, I_l5, I_l6, I_l8, I_l9, I_l10, I_l11, I_l32, I_l40, I_l43, I_l44, I_l45, I_l48, I_l49, I_l57, I_l58, I_l60, I_l61, I_l62, I_l79, I_l80, I_l100, I_l120, I_l180, I_l200, I_l240, I_l300, I_l360, I_l361, I_l362, I_l363, I_l364, I_l365, I_l485, I_l605, I_l1999, I_l2000, I_le, I_lt, I_eq, I_toInt, cz_at, cz_up, if_pos, if_neg]
  · rw [at0_out g]
    simp (disch := omega) only [if_true, if_false, I_add, I_sub, I_mul, I_neg, I_ofNat, Option.bind_some, kIn, I_l0, I_l1, I_l2, I_l3, I_l4, I_l5, I_l6, I_l8, I_l9, I_l10, I_l11, I_l32, I_l40, I_l43, I_l44, I_l45, I_l48, I_l49, I_l57, I_l58, I_l60, I_l61, I_l62, I_l79, I_l80, I_l100, I_l120, I_l180, I_l200, I_l240, I_l300, I_l360, I_l361, I_l362, I_l363, I_l364, I_l365, I_l485, I_l605, I_l1999, I_l2000, I_le, I_lt, I_eq, I_toInt]
    repeat' split
    all_goals first | rfl | (exfalso; omega)
def opn (F : Int → Int) (n a u : Int) : Int → Int := if 0 ≤ a ∧ a ≤ u ∧ u < n then cpy F F a (a + 1) (u - a) else F
theorem f9_openCell {nF : Nat} {F : Int → Int} {a u : Int} (h : nF ≤ 3025 ∧ (-100000 ≤ a ∧ a ≤ 100000) ∧ -100000 ≤ u ∧ u ≤ 100000) : pX9_openCell nF (cz F) (I a) (I u) = some (cz (opn F nF a u)) := by
  have e1 : pX9_isWithin (I u) (0 : Int32) ((Int32.ofNat nF) - (1 : Int32)) = some (I (if 0 ≤ u ∧ u ≤ (nF : Int) - 1 then 1 else 0)) := by
    have := f9_isWithin (v := u) (lo := 0) (hi := (nF : Int) - 1) (by omega)
    simp (disch := omega) only [if_true, if_false, I_add, I_sub, I_mul, I_neg, I_ofNat, Option.bind_some, kIn, I_l0, I_l1, I_l2, I_l3, I_l4, I_l5, I_l6, I_l8, I_l9, I_l10, I_l11, I_l32, I_l40, I_l43, I_l44, I_l45, I_l48, I_l49, I_l57, I_l58, I_l60, I_l61, I_l62, I_l79, I_l80, I_l100, I_l120, I_l180, I_l200, I_l240, I_l300, I_l360, I_l361, I_l362, I_l363, I_l364, I_l365, I_l485, I_l605, I_l1999, I_l2000]
    exact this
  have e2 : pX9_isWithin (I a) (0 : Int32) (I u) = some (I (if 0 ≤ a ∧ a ≤ u then 1 else 0)) := by
    have := f9_isWithin (v := a) (lo := 0) (hi := u) (by omega)
    simp (disch := omega) only [if_true, if_false, I_add, I_sub, I_mul, I_neg, I_ofNat, Option.bind_some, kIn, I_l0, I_l1, I_l2, I_l3, I_l4, I_l5, I_l6, I_l8, I_l9, I_l10, I_l11, I_l32, I_l40, I_l43, I_l44, I_l45, I_l48, I_l49, I_l57, I_l58, I_l60, I_l61, I_l62, I_l79, I_l80, I_l100, I_l120, I_l180, I_l200, I_l240, I_l300, I_l360, I_l361, I_l362, I_l363, I_l364, I_l365, I_l485, I_l605, I_l1999, I_l2000]
    exact this
  unfold pX9_openCell opn
  rw [e1, e2]
  by_cases q1 : 0 ≤ u ∧ u ≤ (nF : Int) - 1
  · rw [if_pos q1]
    simp only [Option.bind_some]
    rw [if_neg (by decide)]
    by_cases q2 : 0 ≤ a ∧ a ≤ u
    · rw [if_pos q2, if_neg (by decide)]
      rw [if_pos (show 0 ≤ a ∧ a ≤ u ∧ u < (nF : Int) by omega)]
      simp (disch := omega) only [if_true, if_false, I_add, I_sub, I_mul, I_neg, I_ofNat, Option.bind_some, kIn, I_l0, I_l1, I_l2, I_l3, I_l4, I_l5, I_l6, I_l8, I_l9, I_l10, I_l11, I_l32, I_l40, I_l43, I_l44, I_l45, I_l48, I_l49, I_l57, I_l58, I_l60, I_l61, I_l62, I_l79, I_l80, I_l100, I_l120, I_l180, I_l200, I_l240, I_l300, I_l360, I_l361, I_l362, I_l363, I_l364, I_l365, I_l485, I_l605, I_l1999, I_l2000, I_le, I_lt, I_eq, I_toInt, I_clamp]
      rw [if_pos (by omega)]
      have := cz_cpy (F := F) (G := F) (s := a) (d := a + 1) (n := u - a) (by omega) (by omega) (by omega)
      rw [I_clamp (by omega), I_clamp (by omega), I_clamp (by omega)] at this
      rw [this]
    · rw [if_neg q2, if_pos (by decide)]
      rw [if_neg (show ¬ (0 ≤ a ∧ a ≤ u ∧ u < (nF : Int)) by omega)]
  · rw [if_neg q1]
    simp only [Option.bind_some]
    rw [if_pos (by decide)]
    rw [if_neg (show ¬ (0 ≤ a ∧ a ≤ u ∧ u < (nF : Int)) by omega)]
def cls (F : Int → Int) (n a c u : Int) : Int → Int := if 0 ≤ a ∧ 0 ≤ c ∧ a + c ≤ u ∧ u ≤ n then cpy F F (a + c) a (u - a - c) else F
theorem f9_closeCells {nF : Nat} {F : Int → Int} {a c u : Int} (h : nF ≤ 3025 ∧ (-100000 ≤ a ∧ a ≤ 100000) ∧ (-100000 ≤ c ∧ c ≤ 100000) ∧ -100000 ≤ u ∧ u ≤ 100000) : pX9_closeCells nF (cz F) (I a) (I c) (I u) = some (cz (cls F nF a c u)) := by
  have e1 : pX9_isWithin (I u) (0 : Int32) (Int32.ofNat nF) = some (I (if 0 ≤ u ∧ u ≤ (nF : Int) then 1 else 0)) := by
    have := f9_isWithin (v := u) (lo := 0) (hi := (nF : Int)) (by omega)
    simp (disch := omega) only [if_true, if_false, I_add, I_sub, I_mul, I_neg, I_ofNat, Option.bind_some, kIn, I_l0, I_l1, I_l2, I_l3, I_l4, I_l5, I_l6, I_l8, I_l9, I_l10, I_l11, I_l32, I_l40, I_l43, I_l44, I_l45, I_l48, I_l49, I_l57, I_l58, I_l60, I_l61, I_l62, I_l79, I_l80, I_l100, I_l120, I_l180, I_l200, I_l240, I_l300, I_l360, I_l361, I_l362, I_l363, I_l364, I_l365, I_l485, I_l605, I_l1999, I_l2000]
    exact this
  have e2 : pX9_isWithin (I a) (0 : Int32) (I u) = some (I (if 0 ≤ a ∧ a ≤ u then 1 else 0)) := by
    have := f9_isWithin (v := a) (lo := 0) (hi := u) (by omega)
    simp (disch := omega) only [if_true, if_false, I_add, I_sub, I_mul, I_neg, I_ofNat, Option.bind_some, kIn, I_l0, I_l1, I_l2, I_l3, I_l4, I_l5, I_l6, I_l8, I_l9, I_l10, I_l11, I_l32, I_l40, I_l43, I_l44, I_l45, I_l48, I_l49, I_l57, I_l58, I_l60, I_l61, I_l62, I_l79, I_l80, I_l100, I_l120, I_l180, I_l200, I_l240, I_l300, I_l360, I_l361, I_l362, I_l363, I_l364, I_l365, I_l485, I_l605, I_l1999, I_l2000]
    exact this
  have e3 : pX9_isWithin (I c) (0 : Int32) (I u - I a) = some (I (if 0 ≤ c ∧ c ≤ u - a then 1 else 0)) := by
    have := f9_isWithin (v := c) (lo := 0) (hi := u - a) (by omega)
    simp (disch := omega) only [if_true, if_false, I_add, I_sub, I_mul, I_neg, I_ofNat, Option.bind_some, kIn, I_l0, I_l1, I_l2, I_l3, I_l4, I_l5, I_l6, I_l8, I_l9, I_l10, I_l11, I_l32, I_l40, I_l43, I_l44, I_l45, I_l48, I_l49, I_l57, I_l58, I_l60, I_l61, I_l62, I_l79, I_l80, I_l100, I_l120, I_l180, I_l200, I_l240, I_l300, I_l360, I_l361, I_l362, I_l363, I_l364, I_l365, I_l485, I_l605, I_l1999, I_l2000]
    exact this
  unfold pX9_closeCells cls
  rw [e1, e2, e3]
  by_cases q1 : 0 ≤ u ∧ u ≤ (nF : Int)
  · rw [if_pos q1]
    simp only [Option.bind_some]
    rw [if_neg (by decide)]
    by_cases q2 : 0 ≤ a ∧ a ≤ u
    · rw [if_pos q2, if_neg (by decide)]
      by_cases q3 : 0 ≤ c ∧ c ≤ u - a
      · rw [if_pos q3, if_neg (by decide)]
        rw [if_pos (show 0 ≤ a ∧ 0 ≤ c ∧ a + c ≤ u ∧ u ≤ (nF : Int) by omega)]
        simp (disch := omega) only [if_true, if_false, I_add, I_sub, I_mul, I_neg, I_ofNat, Option.bind_some, kIn, I_l0, I_l1, I_l2, I_l3, I_l4, I_l5, I_l6, I_l8, I_l9, I_l10, I_l11, I_l32, I_l40, I_l43, I_l44, I_l45, I_l48, I_l49, I_l57, I_l58, I_l60, I_l61, I_l62, I_l79, I_l80, I_l100, I_l120, I_l180, I_l200, I_l240, I_l300, I_l360, I_l361, I_l362, I_l363, I_l364, I_l365, I_l485, I_l605, I_l1999, I_l2000, I_le, I_lt, I_eq, I_toInt, I_clamp]
        rw [if_pos (by omega)]
        have := cz_cpy (F := F) (G := F) (s := a + c) (d := a) (n := u - a - c) (by omega) (by omega) (by omega)
        rw [I_clamp (by omega), I_clamp (by omega), I_clamp (by omega)] at this
        rw [this]
      · rw [if_neg q3, if_pos (by decide)]
        rw [if_neg (show ¬ (0 ≤ a ∧ 0 ≤ c ∧ a + c ≤ u ∧ u ≤ (nF : Int)) by omega)]
    · rw [if_neg q2, if_pos (by decide)]
      rw [if_neg (show ¬ (0 ≤ a ∧ 0 ≤ c ∧ a + c ≤ u ∧ u ≤ (nF : Int)) by omega)]
  · rw [if_neg q1]
    simp only [Option.bind_some]
    rw [if_pos (by decide)]
    rw [if_neg (show ¬ (0 ≤ a ∧ 0 ≤ c ∧ a + c ≤ u ∧ u ≤ (nF : Int)) by omega)]
theorem f9_copyRow {n : Nat} {f : Nat → Int32} (h : n ≤ 3025) : pX9_copyRow n n f = some f := by
  unfold pX9_copyRow
  rw [if_pos ⟨rfl, h⟩]
