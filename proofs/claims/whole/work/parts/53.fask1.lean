-- what is set and asked: both sides alike
def rW (y0 y1 : Int32) (w : Int → Int) : Prop := y0 = I (wdt w 0) ∧ y1 = I (wdt w 1) ∧ (w 0 = 0 ∨ 10 ≤ w 0 ∧ w 0 ≤ 200) ∧ (w 1 = 0 ∨ 10 ≤ w 1 ∧ w 1 ≤ 200)
theorem rW.bd {y0 y1 : Int32} {w : Int → Int} (h : rW y0 y1 w) : ((-100000 ≤ w 0 ∧ w 0 ≤ 100000) ∧ -100000 ≤ w 1 ∧ w 1 ≤ 100000) ∧ (1 ≤ wdt w 0 ∧ wdt w 0 ≤ 200) ∧ 1 ≤ wdt w 1 ∧ wdt w 1 ≤ 200 := by
  obtain ⟨_, _, h0, h1⟩ := h
  unfold wdt
  refine ⟨by omega, ?_, ?_⟩ <;> split <;> omega
theorem e_setWidth {y0 y1 : Int32} {w : Int → Int} (h : rW y0 y1 w) (i1 i2 : Int32) : ∃ (a z0 z1 : Int32) (w2 : Int → Int), pX9_setWidth y0 y1 i1 i2 = some (a, z0, z1) ∧ pX10_setWidth (cz w) i1 i2 = some (a, cz w2) ∧ rW z0 z1 w2 := by
  obtain ⟨b, hb, rfl⟩ := I_of i1
  obtain ⟨x, hx, rfl⟩ := I_of i2
  have hd := h.bd
  obtain ⟨rfl, rfl, h0, h1⟩ := id h
  unfold pX9_setWidth pX10_setWidth
  simp only [if_true, if_false, I_add, I_sub, I_mul, I_neg, I_ofNat, Option.bind_some, kIn, I_l0, I_l1, I_l2, I_l3, I_l4, I_l5, I_l6, I_l8, I_l9, I_l10, I_l11, I_l32, I_l40, I_l43, I_l44, I_l45, I_l48, I_l49, I_l57, I_l58, I_l60, I_l61, I_l62, I_l79, I_l80, I_l100, I_l120, I_l180, I_l200, I_l240, I_l300, I_l360, I_l361, I_l362, I_l363, I_l364, I_l365, I_l485, I_l605, I_l1999, I_l2000]
  rw [f9_isBook hb, f10_noBook hb]
  by_cases q : b = 0 ∨ b = 1
  · rw [if_pos q, if_pos q]
    by_cases q2 : 10 ≤ x ∧ x ≤ 200
    · rcases q with rfl | rfl
      · refine ⟨I (wdt w 0), I x, I (wdt w 1), up w 0 x, ?_, ?_, ?_, ?_, ?_, ?_⟩
        · rw [f9_isWithin (by omega), if_pos q2]
          unfold pX3_widthOf pX3_changeWidth
          simp (disch := omega) only [if_true, if_false, I_add, I_sub, I_mul, I_neg, I_ofNat, Option.bind_some, kIn, I_l0, I_l1, I_l2, I_l3, I_l4, I_l5, I_l6, I_l8, I_l9, I_l10, I_l11, I_l32, I_l40, I_l43, I_l44, I_l45, I_l48, I_l49, I_l57, I_l58, I_l60, I_l61, I_l62, I_l79, I_l80, I_l100, I_l120, I_l180, I_l200, I_l240, I_l300, I_l360, I_l361, I_l362, I_l363, I_l364, I_l365, I_l485, I_l605, I_l1999, I_l2000, I_le, I_lt, I_eq, I_toInt, cz_at, cz_up, if_pos, if_neg]
        · rw [f10_in (by omega), if_pos q2, f10_width (by omega) (by omega)]
          simp (disch := omega) only [if_true, if_false, I_add, I_sub, I_mul, I_neg, I_ofNat, Option.bind_some, kIn, I_l0, I_l1, I_l2, I_l3, I_l4, I_l5, I_l6, I_l8, I_l9, I_l10, I_l11, I_l32, I_l40, I_l43, I_l44, I_l45, I_l48, I_l49, I_l57, I_l58, I_l60, I_l61, I_l62, I_l79, I_l80, I_l100, I_l120, I_l180, I_l200, I_l240, I_l300, I_l360, I_l361, I_l362, I_l363, I_l364, I_l365, I_l485, I_l605, I_l1999, I_l2000, I_le, I_lt, I_eq, I_toInt, cz_at, cz_up, if_pos, if_neg]
        · unfold wdt
          rw [up_at rfl, if_neg (by omega)]
        · unfold wdt
          rw [up_ne (by omega)]
        · rw [up_at rfl]; exact Or.inr q2
        · rw [up_ne (by omega)]; exact h1
      · refine ⟨I (wdt w 1), I (wdt w 0), I x, up w 1 x, ?_, ?_, ?_, ?_, ?_, ?_⟩
        · rw [f9_isWithin (by omega), if_pos q2]
          unfold pX3_widthOf pX3_changeWidth
          simp (disch := omega) only [if_true, if_false, I_add, I_sub, I_mul, I_neg, I_ofNat, Option.bind_some, kIn, I_l0, I_l1, I_l2, I_l3, I_l4, I_l5, I_l6, I_l8, I_l9, I_l10, I_l11, I_l32, I_l40, I_l43, I_l44, I_l45, I_l48, I_l49, I_l57, I_l58, I_l60, I_l61, I_l62, I_l79, I_l80, I_l100, I_l120, I_l180, I_l200, I_l240, I_l300, I_l360, I_l361, I_l362, I_l363, I_l364, I_l365, I_l485, I_l605, I_l1999, I_l2000, I_le, I_lt, I_eq, I_toInt, cz_at, cz_up, if_pos, if_neg]
        · rw [f10_in (by omega), if_pos q2, f10_width (by omega) (by omega)]
          simp (disch := omega) only [if_true, if_false, I_add, I_sub, I_mul, I_neg, I_ofNat, Option.bind_some, kIn, I_l0, I_l1, I_l2, I_l3, I_l4, I_l5, I_l6, I_l8, I_l9, I_l10, I_l11, I_l32, I_l40, I_l43, I_l44, I_l45, I_l48, I_l49, I_l57, I_l58, I_l60, I_l61, I_l62, I_l79, I_l80, I_l100, I_l120, I_l180, I_l200, I_l240, I_l300, I_l360, I_l361, I_l362, I_l363, I_l364, I_l365, I_l485, I_l605, I_l1999, I_l2000, I_le, I_lt, I_eq, I_toInt, cz_at, cz_up, if_pos, if_neg]
        · unfold wdt
          rw [up_ne (by omega)]
        · unfold wdt
          rw [up_at rfl, if_neg (by omega)]
        · rw [up_ne (by omega)]; exact h0
        · rw [up_at rfl]; exact Or.inr q2
    · refine ⟨I (-2), _, _, w, ?_, ?_, h⟩
      · rw [f9_isWithin (by omega), if_neg q2]
        simp (disch := omega) only [if_true, if_false, I_add, I_sub, I_mul, I_neg, I_ofNat, Option.bind_some, kIn, I_l0, I_l1, I_l2, I_l3, I_l4, I_l5, I_l6, I_l8, I_l9, I_l10, I_l11, I_l32, I_l40, I_l43, I_l44, I_l45, I_l48, I_l49, I_l57, I_l58, I_l60, I_l61, I_l62, I_l79, I_l80, I_l100, I_l120, I_l180, I_l200, I_l240, I_l300, I_l360, I_l361, I_l362, I_l363, I_l364, I_l365, I_l485, I_l605, I_l1999, I_l2000, I_le, I_lt, I_eq, I_toInt, cz_at, cz_up, if_pos, if_neg]
      · rw [f10_in (by omega), if_neg q2]
        simp (disch := omega) only [if_true, if_false, I_add, I_sub, I_mul, I_neg, I_ofNat, Option.bind_some, kIn, I_l0, I_l1, I_l2, I_l3, I_l4, I_l5, I_l6, I_l8, I_l9, I_l10, I_l11, I_l32, I_l40, I_l43, I_l44, I_l45, I_l48, I_l49, I_l57, I_l58, I_l60, I_l61, I_l62, I_l79, I_l80, I_l100, I_l120, I_l180, I_l200, I_l240, I_l300, I_l360, I_l361, I_l362, I_l363, I_l364, I_l365, I_l485, I_l605, I_l1999, I_l2000, I_le, I_lt, I_eq, I_toInt, cz_at, cz_up, if_pos, if_neg]
  · refine ⟨I (-1), _, _, w, ?_, ?_, h⟩
    · rw [if_neg q]
      simp (disch := omega) only [if_true, if_false, I_add, I_sub, I_mul, I_neg, I_ofNat, Option.bind_some, kIn, I_l0, I_l1, I_l2, I_l3, I_l4, I_l5, I_l6, I_l8, I_l9, I_l10, I_l11, I_l32, I_l40, I_l43, I_l44, I_l45, I_l48, I_l49, I_l57, I_l58, I_l60, I_l61, I_l62, I_l79, I_l80, I_l100, I_l120, I_l180, I_l200, I_l240, I_l300, I_l360, I_l361, I_l362, I_l363, I_l364, I_l365, I_l485, I_l605, I_l1999, I_l2000, I_le, I_lt, I_eq, I_toInt, cz_at, cz_up, if_pos, if_neg]
    · rw [if_neg q]
      simp (disch := omega) only [if_true, if_false, I_add, I_sub, I_mul, I_neg, I_ofNat, Option.bind_some, kIn, I_l0, I_l1, I_l2, I_l3, I_l4, I_l5, I_l6, I_l8, I_l9, I_l10, I_l11, I_l32, I_l40, I_l43, I_l44, I_l45, I_l48, I_l49, I_l57, I_l58, I_l60, I_l61, I_l62, I_l79, I_l80, I_l100, I_l120, I_l180, I_l200, I_l240, I_l300, I_l360, I_l361, I_l362, I_l363, I_l364, I_l365, I_l485, I_l605, I_l1999, I_l2000, I_le, I_lt, I_eq, I_toInt, cz_at, cz_up, if_pos, if_neg]
def rZ (y2 y3 d6 d7 : Int32) (ph h : Int) : Prop := y2 = I ph ∧ d6 = I ph ∧ y3 = I h ∧ d7 = I h ∧ (5 ≤ ph ∧ ph ≤ 200) ∧ 0 ≤ h ∧ h ≤ 5
theorem e_setHeights {y2 y3 d6 d7 : Int32} {ph h : Int} (r : rZ y2 y3 d6 d7 ph h) (i1 i2 : Int32) : ∃ (a z2 z3 e6 e7 : Int32) (p2 h2 : Int), pX9_setHeights y2 y3 i1 i2 = some (a, z2, z3) ∧ pX10_setHeights d6 d7 i1 i2 = some (a, e6, e7) ∧ rZ z2 z3 e6 e7 p2 h2 := by
  obtain ⟨x, hx, rfl⟩ := I_of i1
  obtain ⟨y, hy, rfl⟩ := I_of i2
  obtain ⟨rfl, rfl, rfl, rfl, h0, h1⟩ := id r
  unfold pX9_setHeights pX10_setHeights
  simp only [if_true, if_false, I_add, I_sub, I_mul, I_neg, I_ofNat, Option.bind_some, kIn, I_l0, I_l1, I_l2, I_l3, I_l4, I_l5, I_l6, I_l8, I_l9, I_l10, I_l11, I_l32, I_l40, I_l43, I_l44, I_l45, I_l48, I_l49, I_l57, I_l58, I_l60, I_l61, I_l62, I_l79, I_l80, I_l100, I_l120, I_l180, I_l200, I_l240, I_l300, I_l360, I_l361, I_l362, I_l363, I_l364, I_l365, I_l485, I_l605, I_l1999, I_l2000]
  rw [f9_isWithin (by omega), f10_in (by omega)]
  by_cases q : 5 ≤ x ∧ x ≤ 200
  · rw [if_pos q]
    by_cases q2 : 0 ≤ y ∧ y ≤ 5
    · refine ⟨I ph, I x, I y, I x, I y, x, y, ?_, ?_, rfl, rfl, rfl, rfl, q, q2⟩
      · rw [f9_isWithin (by omega), if_pos q2]
        simp (disch := omega) only [if_true, if_false, I_add, I_sub, I_mul, I_neg, I_ofNat, Option.bind_some, kIn, I_l0, I_l1, I_l2, I_l3, I_l4, I_l5, I_l6, I_l8, I_l9, I_l10, I_l11, I_l32, I_l40, I_l43, I_l44, I_l45, I_l48, I_l49, I_l57, I_l58, I_l60, I_l61, I_l62, I_l79, I_l80, I_l100, I_l120, I_l180, I_l200, I_l240, I_l300, I_l360, I_l361, I_l362, I_l363, I_l364, I_l365, I_l485, I_l605, I_l1999, I_l2000, I_le, I_lt, I_eq, I_toInt, cz_at, cz_up, if_pos, if_neg]
      · rw [f10_in (by omega), if_pos q2]
        simp (disch := omega) only [if_true, if_false, I_add, I_sub, I_mul, I_neg, I_ofNat, Option.bind_some, kIn, I_l0, I_l1, I_l2, I_l3, I_l4, I_l5, I_l6, I_l8, I_l9, I_l10, I_l11, I_l32, I_l40, I_l43, I_l44, I_l45, I_l48, I_l49, I_l57, I_l58, I_l60, I_l61, I_l62, I_l79, I_l80, I_l100, I_l120, I_l180, I_l200, I_l240, I_l300, I_l360, I_l361, I_l362, I_l363, I_l364, I_l365, I_l485, I_l605, I_l1999, I_l2000, I_le, I_lt, I_eq, I_toInt, cz_at, cz_up, if_pos, if_neg]
    · refine ⟨I (-2), _, _, _, _, ph, h, ?_, ?_, r⟩
      · rw [f9_isWithin (by omega), if_neg q2]
        simp (disch := omega) only [if_true, if_false, I_add, I_sub, I_mul, I_neg, I_ofNat, Option.bind_some, kIn, I_l0, I_l1, I_l2, I_l3, I_l4, I_l5, I_l6, I_l8, I_l9, I_l10, I_l11, I_l32, I_l40, I_l43, I_l44, I_l45, I_l48, I_l49, I_l57, I_l58, I_l60, I_l61, I_l62, I_l79, I_l80, I_l100, I_l120, I_l180, I_l200, I_l240, I_l300, I_l360, I_l361, I_l362, I_l363, I_l364, I_l365, I_l485, I_l605, I_l1999, I_l2000, I_le, I_lt, I_eq, I_toInt, cz_at, cz_up, if_pos, if_neg]
      · rw [f10_in (by omega), if_neg q2]
        simp (disch := omega) only [if_true, if_false, I_add, I_sub, I_mul, I_neg, I_ofNat, Option.bind_some, kIn, I_l0, I_l1, I_l2, I_l3, I_l4, I_l5, I_l6, I_l8, I_l9, I_l10, I_l11, I_l32, I_l40, I_l43, I_l44, I_l45, I_l48, I_l49, I_l57, I_l58, I_l60, I_l61, I_l62, I_l79, I_l80, I_l100, I_l120, I_l180, I_l200, I_l240, I_l300, I_l360, I_l361, I_l362, I_l363, I_l364, I_l365, I_l485, I_l605, I_l1999, I_l2000, I_le, I_lt, I_eq, I_toInt, cz_at, cz_up, if_pos, if_neg]
  · rw [if_neg q]
    refine ⟨I (-2), _, _, _, _, ph, h, ?_, ?_, r⟩
    · simp (disch := omega) only [if_true, if_false, I_add, I_sub, I_mul, I_neg, I_ofNat, Option.bind_some, kIn, I_l0, I_l1, I_l2, I_l3, I_l4, I_l5, I_l6, I_l8, I_l9, I_l10, I_l11, I_l32, I_l40, I_l43, I_l44, I_l45, I_l48, I_l49, I_l57, I_l58, I_l60, I_l61, I_l62, I_l79, I_l80, I_l100, I_l120, I_l180, I_l200, I_l240, I_l300, I_l360, I_l361, I_l362, I_l363, I_l364, I_l365, I_l485, I_l605, I_l1999, I_l2000, I_le, I_lt, I_eq, I_toInt, cz_at, cz_up, if_pos, if_neg]
    · simp (disch := omega) only [if_true, if_false, I_add, I_sub, I_mul, I_neg, I_ofNat, Option.bind_some, kIn, I_l0, I_l1, I_l2, I_l3, I_l4, I_l5, I_l6, I_l8, I_l9, I_l10, I_l11, I_l32, I_l40, I_l43, I_l44, I_l45, I_l48, I_l49, I_l57, I_l58, I_l60, I_l61, I_l62, I_l79, I_l80, I_l100, I_l120, I_l180, I_l200, I_l240, I_l300, I_l360, I_l361, I_l362, I_l363, I_l364, I_l365, I_l485, I_l605, I_l1999, I_l2000, I_le, I_lt, I_eq, I_toInt, cz_at, cz_up, if_pos, if_neg]
def rT (t0 : Nat → Int32) (t1 d3 : Int32) (d4 : Nat → Int32) : Prop := ∃ (S S2 : Int → Int) (n : Int), t0 = cz S ∧ t1 = I n ∧ d3 = I n ∧ d4 = cz S2 ∧ (0 ≤ n ∧ n ≤ 80) ∧ ∀ i, 0 ≤ i → i < n → S i = S2 i ∧ 0 ≤ S2 i ∧ S2 i ≤ 65535
theorem e_clearText {t0 : Nat → Int32} {t1 d3 : Int32} {d4 : Nat → Int32} (r : rT t0 t1 d3 d4) : ∃ a z1 e3 : Int32, pX9_clearText t1 = some (a, z1) ∧ pX10_clearText d3 = some (a, e3) ∧ rT t0 z1 e3 d4 := by
  obtain ⟨S, S2, n, rfl, rfl, rfl, rfl, h0, h1⟩ := r
  exact ⟨I n, 0, 0, rfl, rfl, S, S2, 0, rfl, rfl, rfl, rfl, by omega, fun i a b => by omega⟩
theorem e_type {t0 : Nat → Int32} {t1 d3 : Int32} {d4 : Nat → Int32} {x : Int} (r : rT t0 t1 d3 d4) (hx : 0 ≤ x ∧ x ≤ 65535) : ∃ (a z1 e3 : Int32) (z0 e4 : Nat → Int32), pX9_type t0 t1 (I x) = some (a, z0, z1) ∧ pX10_type d3 d4 (I x) = some (a, e3, e4) ∧ rT z0 z1 e3 e4 := by
  obtain ⟨S, S2, n, rfl, rfl, rfl, rfl, h0, h1⟩ := id r
  unfold pX9_type pX10_type
  by_cases q : n = 80
  · subst q
    refine ⟨I (-3), _, _, _, _, ?_, ?_, r⟩
    · rw [f8_appendF]
      simp (disch := omega) only [if_true, if_false, I_add, I_sub, I_mul, I_neg, I_ofNat, Option.bind_some, kIn, I_l0, I_l1, I_l2, I_l3, I_l4, I_l5, I_l6, I_l8, I_l9, I_l10, I_l11, I_l32, I_l40, I_l43, I_l44, I_l45, I_l48, I_l49, I_l57, I_l58, I_l60, I_l61, I_l62, I_l79, I_l80, I_l100, I_l120, I_l180, I_l200, I_l240, I_l300, I_l360, I_l361, I_l362, I_l363, I_l364, I_l365, I_l485, I_l605, I_l1999, I_l2000, I_le, I_lt, I_eq, I_toInt, cz_at, cz_up, if_pos, if_neg]
    · simp (disch := omega) only [if_true, if_false, I_add, I_sub, I_mul, I_neg, I_ofNat, Option.bind_some, kIn, I_l0, I_l1, I_l2, I_l3, I_l4, I_l5, I_l6, I_l8, I_l9, I_l10, I_l11, I_l32, I_l40, I_l43, I_l44, I_l45, I_l48, I_l49, I_l57, I_l58, I_l60, I_l61, I_l62, I_l79, I_l80, I_l100, I_l120, I_l180, I_l200, I_l240, I_l300, I_l360, I_l361, I_l362, I_l363, I_l364, I_l365, I_l485, I_l605, I_l1999, I_l2000, I_le, I_lt, I_eq, I_toInt, cz_at, cz_up, if_pos, if_neg]
  · refine ⟨I (n + 1), I (n + 1), I (n + 1), cz (up S n x), cz (up S2 n x), ?_, ?_, _, _, _, rfl, rfl, rfl, rfl, by omega, fun i a b => ?_⟩
    · rw [f8_append (by omega)]
      simp (disch := omega) only [if_true, if_false, I_add, I_sub, I_mul, I_neg, I_ofNat, Option.bind_some, kIn, I_l0, I_l1, I_l2, I_l3, I_l4, I_l5, I_l6, I_l8, I_l9, I_l10, I_l11, I_l32, I_l40, I_l43, I_l44, I_l45, I_l48, I_l49, I_l57, I_l58, I_l60, I_l61, I_l62, I_l79, I_l80, I_l100, I_l120, I_l180, I_l200, I_l240, I_l300, I_l360, I_l361, I_l362, I_l363, I_l364, I_l365, I_l485, I_l605, I_l1999, I_l2000, I_le, I_lt, I_eq, I_toInt, cz_at, cz_up, if_pos, if_neg]
    · simp (disch := omega) only [if_true, if_false, I_add, I_sub, I_mul, I_neg, I_ofNat, Option.bind_some, kIn, I_l0, I_l1, I_l2, I_l3, I_l4, I_l5, I_l6, I_l8, I_l9, I_l10, I_l11, I_l32, I_l40, I_l43, I_l44, I_l45, I_l48, I_l49, I_l57, I_l58, I_l60, I_l61, I_l62, I_l79, I_l80, I_l100, I_l120, I_l180, I_l200, I_l240, I_l300, I_l360, I_l361, I_l362, I_l363, I_l364, I_l365, I_l485, I_l605, I_l1999, I_l2000, I_le, I_lt, I_eq, I_toInt, cz_at, cz_up, if_pos, if_neg]
      rw [nar_char hx]
      simp (disch := omega) only [if_true, if_false, I_add, I_sub, I_mul, I_neg, I_ofNat, Option.bind_some, kIn, I_l0, I_l1, I_l2, I_l3, I_l4, I_l5, I_l6, I_l8, I_l9, I_l10, I_l11, I_l32, I_l40, I_l43, I_l44, I_l45, I_l48, I_l49, I_l57, I_l58, I_l60, I_l61, I_l62, I_l79, I_l80, I_l100, I_l120, I_l180, I_l200, I_l240, I_l300, I_l360, I_l361, I_l362, I_l363, I_l364, I_l365, I_l485, I_l605, I_l1999, I_l2000, I_le, I_lt, I_eq, I_toInt, cz_at, cz_up, if_pos, if_neg]
    · by_cases z : i = n
      · rw [up_at z, up_at z]; exact ⟨rfl, hx⟩
      · rw [up_ne z, up_ne z]; exact h1 i a (by omega)
section ASK1
variable {W : Int → Int} {vL0 vL1 vL2 : Nat → Int32} {vL3 : Int32} {vR0 vR1 vR2 : Nat → Int32} {vR3 : Int32} {vM0 vM1 : Nat → Int32} {vM2 : Int32}
theorem e_beside (hS : rS ((vL0, vL1, vL2, vL3), (vR0, vR1, vR2, vR3), (vM0, vM1, vM2)) W) (i1 i2 i3 : Int32) : ∃ a : Int32, pX9_beside vL3 vR3 vM0 vM1 vM2 i1 i2 i3 = some a ∧ pX10_beside (cz W) i1 i2 i3 = some a := by
  obtain ⟨b, hb, rfl⟩ := I_of i1
  obtain ⟨v, hv, rfl⟩ := I_of i2
  obtain ⟨x, hx, rfl⟩ := I_of i3
  obtain ⟨c0, l0, o0, n0, c1, l1, o1, n1, L, R, g, e, k0, k1, kM, r0, r1, rm⟩ := id hS
  simp only [Prod.mk.injEq] at e
  obtain ⟨⟨rfl, rfl, rfl, rfl⟩, ⟨rfl, rfl, rfl, rfl⟩, rfl, rfl, rfl⟩ := e
  have b0 := k0.1
  have b1 := k1.1
  have hg := kM.1
  unfold pX9_beside pX10_beside
  simp only [if_true, if_false, I_add, I_sub, I_mul, I_neg, I_ofNat, Option.bind_some, kIn, I_l0, I_l1, I_l2, I_l3, I_l4, I_l5, I_l6, I_l8, I_l9, I_l10, I_l11, I_l32, I_l40, I_l43, I_l44, I_l45, I_l48, I_l49, I_l57, I_l58, I_l60, I_l61, I_l62, I_l79, I_l80, I_l100, I_l120, I_l180, I_l200, I_l240, I_l300, I_l360, I_l361, I_l362, I_l363, I_l364, I_l365, I_l485, I_l605, I_l1999, I_l2000]
  by_cases q : (b = 0 ∧ 0 ≤ v ∧ v < n0) ∨ (b = 1 ∧ 0 ≤ v ∧ v < n1)
  · rw [f9_isVerseY ⟨b0, b1⟩ q, f10_noVerseY ⟨b0, b1⟩ r0.1 r1.1 q]
    simp (disch := omega) only [if_true, if_false, I_add, I_sub, I_mul, I_neg, I_ofNat, Option.bind_some, kIn, I_l0, I_l1, I_l2, I_l3, I_l4, I_l5, I_l6, I_l8, I_l9, I_l10, I_l11, I_l32, I_l40, I_l43, I_l44, I_l45, I_l48, I_l49, I_l57, I_l58, I_l60, I_l61, I_l62, I_l79, I_l80, I_l100, I_l120, I_l180, I_l200, I_l240, I_l300, I_l360, I_l361, I_l362, I_l363, I_l364, I_l365, I_l485, I_l605, I_l1999, I_l2000, I_eq, if_pos, if_neg]
    by_cases q2 : 0 ≤ x ∧ x ≤ 2
    · rw [f9_isWithin (by omega), f10_in (by omega), if_pos q2]
      simp (disch := omega) only [if_true, if_false, I_add, I_sub, I_mul, I_neg, I_ofNat, Option.bind_some, kIn, I_l0, I_l1, I_l2, I_l3, I_l4, I_l5, I_l6, I_l8, I_l9, I_l10, I_l11, I_l32, I_l40, I_l43, I_l44, I_l45, I_l48, I_l49, I_l57, I_l58, I_l60, I_l61, I_l62, I_l79, I_l80, I_l100, I_l120, I_l180, I_l200, I_l240, I_l300, I_l360, I_l361, I_l362, I_l363, I_l364, I_l365, I_l485, I_l605, I_l1999, I_l2000, I_eq, if_pos, if_neg]
      have hb1 : 0 ≤ b ∧ b ≤ 1 := by omega
      have hF : ∀ i, 0 ≤ i → i < g → 0 ≤ sel b L R i ∧ sel b L R i ≤ 1000 := fun i p z => by have := okM_S (b := b) kM i p z; omega
      have hSn : v < Sm (sel b L R) g := by
        rcases q with ⟨rfl, q⟩ | ⟨rfl, q⟩
        · have : Sm (sel 0 L R) g = n0 := kM.2.2.1
          omega
        · have : Sm (sel 1 L R) g = n1 := kM.2.2.2
          omega
      obtain ⟨j, j0, j1, j2⟩ := ex_grp (F := sel b L R) (g := g) (v := v) (fun i p z => (hF i p z).1) hg.1 rfl ⟨by omega, hSn⟩
      have hv2 : 0 ≤ v ∧ v ≤ 60 := by omega
      have ob : (if b = 0 then (1 : Int) else 0) = 1 - b := by split <;> omega
      have hO := okM_S (b := 1 - b) kM j j0.1 j0.2
      rw [f1_groupOf (L := L) (R := R) (b := b) ⟨hg, by omega, j0, by omega⟩ hF j1 j2, f10_groupOf (W := W) (L := L) (R := R) (b := b) ⟨hg, by omega, j0, by omega⟩ rm hF j1 j2, f9_otherBook hb, ob]
      simp (disch := omega) only [if_true, if_false, I_add, I_sub, I_mul, I_neg, I_ofNat, Option.bind_some, kIn, I_l0, I_l1, I_l2, I_l3, I_l4, I_l5, I_l6, I_l8, I_l9, I_l10, I_l11, I_l32, I_l40, I_l43, I_l44, I_l45, I_l48, I_l49, I_l57, I_l58, I_l60, I_l61, I_l62, I_l79, I_l80, I_l100, I_l120, I_l180, I_l200, I_l240, I_l300, I_l360, I_l361, I_l362, I_l363, I_l364, I_l365, I_l485, I_l605, I_l1999, I_l2000, I_eq]
      rw [f10_has (b := 1 - b) ⟨hg, j0, by omega⟩ rm, f1_sizeOf (by omega), at0_in j0, f1_firstOf (by omega), f10_firstIn (by omega) rm]
      simp (disch := omega) only [if_true, if_false, I_add, I_sub, I_mul, I_neg, I_ofNat, Option.bind_some, kIn, I_l0, I_l1, I_l2, I_l3, I_l4, I_l5, I_l6, I_l8, I_l9, I_l10, I_l11, I_l32, I_l40, I_l43, I_l44, I_l45, I_l48, I_l49, I_l57, I_l58, I_l60, I_l61, I_l62, I_l79, I_l80, I_l100, I_l120, I_l180, I_l200, I_l240, I_l300, I_l360, I_l361, I_l362, I_l363, I_l364, I_l365, I_l485, I_l605, I_l1999, I_l2000, I_eq]
      by_cases y0 : x = 0
      · rw [if_pos y0, if_pos y0]
        exact ⟨_, rfl, rfl⟩
      · rw [if_neg y0, if_neg y0]
        by_cases y1 : sel (1 - b) L R j = 0
        · rw [if_pos y1, if_pos y1]
          exact ⟨_, rfl, rfl⟩
        · rw [if_neg y1, if_neg y1]
          by_cases y2 : x = 1
          · rw [if_pos y2, if_pos y2]
            refine ⟨_, rfl, ?_⟩
            rw [Int.add_zero]
          · rw [if_neg y2, if_neg y2]
            refine ⟨_, rfl, ?_⟩
            rw [← Int.add_sub_assoc]
    · rw [f9_isWithin (by omega), f10_in (by omega), if_neg q2]
      simp (disch := omega) only [if_true, if_false, I_add, I_sub, I_mul, I_neg, I_ofNat, Option.bind_some, kIn, I_l0, I_l1, I_l2, I_l3, I_l4, I_l5, I_l6, I_l8, I_l9, I_l10, I_l11, I_l32, I_l40, I_l43, I_l44, I_l45, I_l48, I_l49, I_l57, I_l58, I_l60, I_l61, I_l62, I_l79, I_l80, I_l100, I_l120, I_l180, I_l200, I_l240, I_l300, I_l360, I_l361, I_l362, I_l363, I_l364, I_l365, I_l485, I_l605, I_l1999, I_l2000, I_eq, if_pos, if_neg]
      exact ⟨_, rfl, rfl⟩
  · rw [f9_isVerseN (by omega) q, f10_noVerseX (by omega) r0.1 r1.1 q]
    simp (disch := omega) only [if_true, if_false, I_add, I_sub, I_mul, I_neg, I_ofNat, Option.bind_some, kIn, I_l0, I_l1, I_l2, I_l3, I_l4, I_l5, I_l6, I_l8, I_l9, I_l10, I_l11, I_l32, I_l40, I_l43, I_l44, I_l45, I_l48, I_l49, I_l57, I_l58, I_l60, I_l61, I_l62, I_l79, I_l80, I_l100, I_l120, I_l180, I_l200, I_l240, I_l300, I_l360, I_l361, I_l362, I_l363, I_l364, I_l365, I_l485, I_l605, I_l1999, I_l2000, I_eq, if_pos, if_neg]
    exact ⟨_, rfl, rfl⟩
end ASK1
