-- acts: widths, heights, text, chapters added, verses split and joined (printed by wip/p24/fun/mk53.py)
theorem s_setWidth0 {x : Sg} {c0 l0 o0 : Int → Int} {n0 : Int} {c1 l1 o1 : Int → Int} {n1 : Int} {L R : Int → Int} {g k w0 w1 ph h : Int} (d : dX x c0 l0 o0 n0 c1 l1 o1 n1 L R g k w0 w1 ph h) {u : Int} (qx : 10 ≤ u ∧ u ≤ 200) : ∃ x' : Sg, sSetWidth x (I 0) (I u) = some (I w0, x') ∧ dX x' c0 l0 o0 n0 c1 l1 o1 n1 L R g k u w1 ph h ∧ x'.1 = x.1 ∧ x'.2.1 = x.2.1 ∧ x'.2.2.1 = x.2.2.1 := by
  obtain ⟨⟨⟨v0, v1, v2, v3⟩, ⟨v4, v5, v6, v7⟩, v8, v9, v10⟩, ⟨a0, s0, s1, s2, s3, s4⟩, tx, nn, ⟨y0, y1, y2, y3⟩⟩ := x
  obtain ⟨e, ey, k0, k1, kM, hA, hw0, hw1, hph, hh⟩ := d
  simp only [Prod.mk.injEq] at e ey
  obtain ⟨⟨rfl, rfl, rfl, rfl⟩, ⟨rfl, rfl, rfl, rfl⟩, rfl, rfl, rfl⟩ := e
  obtain ⟨rfl, rfl, rfl, rfl⟩ := ey
  have hg := kM.1
  have b0 := k0.1
  have b1 := k1.1
  have E : pX9_setWidth (I w0) (I w1) (I 0) (I u) = some (I w0, I u, I w1) := by
    unfold pX9_setWidth pX3_widthOf pX3_changeWidth
    simp only [if_true, if_false, I_add, I_sub, I_mul, I_neg, I_ofNat, Option.bind_some, kIn, I_l0, I_l1, I_l2, I_l3, I_l4, I_l5, I_l6, I_l7, I_l8, I_l9, I_l10, I_l11, I_l12, I_l13, I_l40, I_l43, I_l44, I_l45, I_l48, I_l57, I_l58, I_l60, I_l61, I_l62, I_l79, I_l80, I_l100, I_l101, I_l120, I_l200, I_l201, I_l1999, I_l2000, I_l2001]
    rw [f9_isBook (by omega), if_pos (Or.inl rfl), f9_isWithin (by omega), if_pos qx]
    simp (disch := omega) only [if_true, if_false, I_add, I_sub, I_mul, I_neg, I_ofNat, Option.bind_some, kIn, I_l0, I_l1, I_l2, I_l3, I_l4, I_l5, I_l6, I_l7, I_l8, I_l9, I_l10, I_l11, I_l12, I_l13, I_l40, I_l43, I_l44, I_l45, I_l48, I_l57, I_l58, I_l60, I_l61, I_l62, I_l79, I_l80, I_l100, I_l101, I_l120, I_l200, I_l201, I_l1999, I_l2000, I_l2001, I_le, I_lt, I_eq, I_toInt, cz_at, cz_up, if_pos, if_neg]
  exact ⟨(((cz c0, cz l0, cz o0, I n0), (cz c1, cz l1, cz o1, I n1), (cz L, cz R, I g)), (a0, s0, s1, s2, s3, s4), tx, nn, (I u, I w1, I ph, I h)), obind E rfl, ⟨rfl, rfl, k0, k1, kM, hA, qx, hw1, hph, hh⟩, rfl, rfl, rfl⟩
theorem s_setWidth1 {x : Sg} {c0 l0 o0 : Int → Int} {n0 : Int} {c1 l1 o1 : Int → Int} {n1 : Int} {L R : Int → Int} {g k w0 w1 ph h : Int} (d : dX x c0 l0 o0 n0 c1 l1 o1 n1 L R g k w0 w1 ph h) {u : Int} (qx : 10 ≤ u ∧ u ≤ 200) : ∃ x' : Sg, sSetWidth x (I 1) (I u) = some (I w1, x') ∧ dX x' c0 l0 o0 n0 c1 l1 o1 n1 L R g k w0 u ph h ∧ x'.1 = x.1 ∧ x'.2.1 = x.2.1 ∧ x'.2.2.1 = x.2.2.1 := by
  obtain ⟨⟨⟨v0, v1, v2, v3⟩, ⟨v4, v5, v6, v7⟩, v8, v9, v10⟩, ⟨a0, s0, s1, s2, s3, s4⟩, tx, nn, ⟨y0, y1, y2, y3⟩⟩ := x
  obtain ⟨e, ey, k0, k1, kM, hA, hw0, hw1, hph, hh⟩ := d
  simp only [Prod.mk.injEq] at e ey
  obtain ⟨⟨rfl, rfl, rfl, rfl⟩, ⟨rfl, rfl, rfl, rfl⟩, rfl, rfl, rfl⟩ := e
  obtain ⟨rfl, rfl, rfl, rfl⟩ := ey
  have hg := kM.1
  have b0 := k0.1
  have b1 := k1.1
  have E : pX9_setWidth (I w0) (I w1) (I 1) (I u) = some (I w1, I w0, I u) := by
    unfold pX9_setWidth pX3_widthOf pX3_changeWidth
    simp only [if_true, if_false, I_add, I_sub, I_mul, I_neg, I_ofNat, Option.bind_some, kIn, I_l0, I_l1, I_l2, I_l3, I_l4, I_l5, I_l6, I_l7, I_l8, I_l9, I_l10, I_l11, I_l12, I_l13, I_l40, I_l43, I_l44, I_l45, I_l48, I_l57, I_l58, I_l60, I_l61, I_l62, I_l79, I_l80, I_l100, I_l101, I_l120, I_l200, I_l201, I_l1999, I_l2000, I_l2001]
    rw [f9_isBook (by omega), if_pos (Or.inr rfl), f9_isWithin (by omega), if_pos qx]
    simp (disch := omega) only [if_true, if_false, I_add, I_sub, I_mul, I_neg, I_ofNat, Option.bind_some, kIn, I_l0, I_l1, I_l2, I_l3, I_l4, I_l5, I_l6, I_l7, I_l8, I_l9, I_l10, I_l11, I_l12, I_l13, I_l40, I_l43, I_l44, I_l45, I_l48, I_l57, I_l58, I_l60, I_l61, I_l62, I_l79, I_l80, I_l100, I_l101, I_l120, I_l200, I_l201, I_l1999, I_l2000, I_l2001, I_le, I_lt, I_eq, I_toInt, cz_at, cz_up, if_pos, if_neg]
  exact ⟨(((cz c0, cz l0, cz o0, I n0), (cz c1, cz l1, cz o1, I n1), (cz L, cz R, I g)), (a0, s0, s1, s2, s3, s4), tx, nn, (I w0, I u, I ph, I h)), obind E rfl, ⟨rfl, rfl, k0, k1, kM, hA, hw0, qx, hph, hh⟩, rfl, rfl, rfl⟩
theorem sE_setWidth2 {x : Sg} {c0 l0 o0 : Int → Int} {n0 : Int} {c1 l1 o1 : Int → Int} {n1 : Int} {L R : Int → Int} {g k w0 w1 ph h : Int} (d : dX x c0 l0 o0 n0 c1 l1 o1 n1 L R g k w0 w1 ph h) {b u : Int} (q : b = 0 ∨ b = 1) (hr : -2147483648 ≤ u ∧ u ≤ 2147483647) (qx : ¬ (10 ≤ u ∧ u ≤ 200)) : sSetWidth x (I b) (I u) = some (I (-2), x) := by
  obtain ⟨⟨⟨v0, v1, v2, v3⟩, ⟨v4, v5, v6, v7⟩, v8, v9, v10⟩, ⟨a0, s0, s1, s2, s3, s4⟩, tx, nn, ⟨y0, y1, y2, y3⟩⟩ := x
  obtain ⟨e, ey, k0, k1, kM, hA, hw0, hw1, hph, hh⟩ := d
  simp only [Prod.mk.injEq] at e ey
  obtain ⟨⟨rfl, rfl, rfl, rfl⟩, ⟨rfl, rfl, rfl, rfl⟩, rfl, rfl, rfl⟩ := e
  obtain ⟨rfl, rfl, rfl, rfl⟩ := ey
  have hg := kM.1
  have b0 := k0.1
  have b1 := k1.1
  have E : pX9_setWidth (I w0) (I w1) (I b) (I u) = some (I (-2), I w0, I w1) := by
    unfold pX9_setWidth
    simp only [if_true, if_false, I_add, I_sub, I_mul, I_neg, I_ofNat, Option.bind_some, kIn, I_l0, I_l1, I_l2, I_l3, I_l4, I_l5, I_l6, I_l7, I_l8, I_l9, I_l10, I_l11, I_l12, I_l13, I_l40, I_l43, I_l44, I_l45, I_l48, I_l57, I_l58, I_l60, I_l61, I_l62, I_l79, I_l80, I_l100, I_l101, I_l120, I_l200, I_l201, I_l1999, I_l2000, I_l2001]
    rw [f9_isBook (by omega), if_pos q, f9_isWithin (by omega), if_neg qx]
    simp (disch := omega) only [if_true, if_false, I_add, I_sub, I_mul, I_neg, I_ofNat, Option.bind_some, kIn, I_l0, I_l1, I_l2, I_l3, I_l4, I_l5, I_l6, I_l7, I_l8, I_l9, I_l10, I_l11, I_l12, I_l13, I_l40, I_l43, I_l44, I_l45, I_l48, I_l57, I_l58, I_l60, I_l61, I_l62, I_l79, I_l80, I_l100, I_l101, I_l120, I_l200, I_l201, I_l1999, I_l2000, I_l2001, I_le, I_lt, I_eq, I_toInt, cz_at, cz_up, if_pos, if_neg]
  exact obind E rfl
theorem sE_setWidth1 {x : Sg} {c0 l0 o0 : Int → Int} {n0 : Int} {c1 l1 o1 : Int → Int} {n1 : Int} {L R : Int → Int} {g k w0 w1 ph h : Int} (d : dX x c0 l0 o0 n0 c1 l1 o1 n1 L R g k w0 w1 ph h) {b : Int} {i2 : Int32} (q : ¬ (b = 0 ∨ b = 1)) (hr : -2147483648 ≤ b ∧ b ≤ 2147483647) : sSetWidth x (I b) i2 = some (I (-1), x) := by
  obtain ⟨⟨⟨v0, v1, v2, v3⟩, ⟨v4, v5, v6, v7⟩, v8, v9, v10⟩, ⟨a0, s0, s1, s2, s3, s4⟩, tx, nn, ⟨y0, y1, y2, y3⟩⟩ := x
  obtain ⟨e, ey, k0, k1, kM, hA, hw0, hw1, hph, hh⟩ := d
  simp only [Prod.mk.injEq] at e ey
  obtain ⟨⟨rfl, rfl, rfl, rfl⟩, ⟨rfl, rfl, rfl, rfl⟩, rfl, rfl, rfl⟩ := e
  obtain ⟨rfl, rfl, rfl, rfl⟩ := ey
  have hg := kM.1
  have b0 := k0.1
  have b1 := k1.1
  have E : pX9_setWidth (I w0) (I w1) (I b) i2 = some (I (-1), I w0, I w1) := by
    unfold pX9_setWidth
    simp only [if_true, if_false, I_add, I_sub, I_mul, I_neg, I_ofNat, Option.bind_some, kIn, I_l0, I_l1, I_l2, I_l3, I_l4, I_l5, I_l6, I_l7, I_l8, I_l9, I_l10, I_l11, I_l12, I_l13, I_l40, I_l43, I_l44, I_l45, I_l48, I_l57, I_l58, I_l60, I_l61, I_l62, I_l79, I_l80, I_l100, I_l101, I_l120, I_l200, I_l201, I_l1999, I_l2000, I_l2001]
    rw [f9_isBook (by omega), if_neg q]
    simp (disch := omega) only [if_true, if_false, I_add, I_sub, I_mul, I_neg, I_ofNat, Option.bind_some, kIn, I_l0, I_l1, I_l2, I_l3, I_l4, I_l5, I_l6, I_l7, I_l8, I_l9, I_l10, I_l11, I_l12, I_l13, I_l40, I_l43, I_l44, I_l45, I_l48, I_l57, I_l58, I_l60, I_l61, I_l62, I_l79, I_l80, I_l100, I_l101, I_l120, I_l200, I_l201, I_l1999, I_l2000, I_l2001, I_le, I_lt, I_eq, I_toInt, cz_at, cz_up, if_pos, if_neg]
  exact obind E rfl
theorem s_setHeights {x : Sg} {c0 l0 o0 : Int → Int} {n0 : Int} {c1 l1 o1 : Int → Int} {n1 : Int} {L R : Int → Int} {g k w0 w1 ph h : Int} (d : dX x c0 l0 o0 n0 c1 l1 o1 n1 L R g k w0 w1 ph h) {u y : Int} (qx : 5 ≤ u ∧ u ≤ 200) (qy : 0 ≤ y ∧ y ≤ 5) : ∃ x' : Sg, sSetHeights x (I u) (I y) = some (I ph, x') ∧ dX x' c0 l0 o0 n0 c1 l1 o1 n1 L R g k w0 w1 u y ∧ x'.1 = x.1 ∧ x'.2.1 = x.2.1 ∧ x'.2.2.1 = x.2.2.1 := by
  obtain ⟨⟨⟨v0, v1, v2, v3⟩, ⟨v4, v5, v6, v7⟩, v8, v9, v10⟩, ⟨a0, s0, s1, s2, s3, s4⟩, tx, nn, ⟨y0, y1, y2, y3⟩⟩ := x
  obtain ⟨e, ey, k0, k1, kM, hA, hw0, hw1, hph, hh⟩ := d
  simp only [Prod.mk.injEq] at e ey
  obtain ⟨⟨rfl, rfl, rfl, rfl⟩, ⟨rfl, rfl, rfl, rfl⟩, rfl, rfl, rfl⟩ := e
  obtain ⟨rfl, rfl, rfl, rfl⟩ := ey
  have hg := kM.1
  have b0 := k0.1
  have b1 := k1.1
  have E : pX9_setHeights (I ph) (I h) (I u) (I y) = some (I ph, I u, I y) := by
    unfold pX9_setHeights
    simp only [if_true, if_false, I_add, I_sub, I_mul, I_neg, I_ofNat, Option.bind_some, kIn, I_l0, I_l1, I_l2, I_l3, I_l4, I_l5, I_l6, I_l7, I_l8, I_l9, I_l10, I_l11, I_l12, I_l13, I_l40, I_l43, I_l44, I_l45, I_l48, I_l57, I_l58, I_l60, I_l61, I_l62, I_l79, I_l80, I_l100, I_l101, I_l120, I_l200, I_l201, I_l1999, I_l2000, I_l2001]
    rw [f9_isWithin (by omega), if_pos qx, f9_isWithin (by omega), if_pos qy]
    simp (disch := omega) only [if_true, if_false, I_add, I_sub, I_mul, I_neg, I_ofNat, Option.bind_some, kIn, I_l0, I_l1, I_l2, I_l3, I_l4, I_l5, I_l6, I_l7, I_l8, I_l9, I_l10, I_l11, I_l12, I_l13, I_l40, I_l43, I_l44, I_l45, I_l48, I_l57, I_l58, I_l60, I_l61, I_l62, I_l79, I_l80, I_l100, I_l101, I_l120, I_l200, I_l201, I_l1999, I_l2000, I_l2001, I_le, I_lt, I_eq, I_toInt, cz_at, cz_up, if_pos, if_neg]
  exact ⟨(((cz c0, cz l0, cz o0, I n0), (cz c1, cz l1, cz o1, I n1), (cz L, cz R, I g)), (a0, s0, s1, s2, s3, s4), tx, nn, (I w0, I w1, I u, I y)), obind E rfl, ⟨rfl, rfl, k0, k1, kM, hA, hw0, hw1, qx, qy⟩, rfl, rfl, rfl⟩
theorem sE_setHeights2 {x : Sg} {c0 l0 o0 : Int → Int} {n0 : Int} {c1 l1 o1 : Int → Int} {n1 : Int} {L R : Int → Int} {g k w0 w1 ph h : Int} (d : dX x c0 l0 o0 n0 c1 l1 o1 n1 L R g k w0 w1 ph h) {u y : Int} (hr : (-2147483648 ≤ u ∧ u ≤ 2147483647) ∧ -2147483648 ≤ y ∧ y ≤ 2147483647) (q : ¬ ((5 ≤ u ∧ u ≤ 200) ∧ 0 ≤ y ∧ y ≤ 5)) : sSetHeights x (I u) (I y) = some (I (-2), x) := by
  obtain ⟨⟨⟨v0, v1, v2, v3⟩, ⟨v4, v5, v6, v7⟩, v8, v9, v10⟩, ⟨a0, s0, s1, s2, s3, s4⟩, tx, nn, ⟨y0, y1, y2, y3⟩⟩ := x
  obtain ⟨e, ey, k0, k1, kM, hA, hw0, hw1, hph, hh⟩ := d
  simp only [Prod.mk.injEq] at e ey
  obtain ⟨⟨rfl, rfl, rfl, rfl⟩, ⟨rfl, rfl, rfl, rfl⟩, rfl, rfl, rfl⟩ := e
  obtain ⟨rfl, rfl, rfl, rfl⟩ := ey
  have hg := kM.1
  have b0 := k0.1
  have b1 := k1.1
  have E : pX9_setHeights (I ph) (I h) (I u) (I y) = some (I (-2), I ph, I h) := by
    unfold pX9_setHeights
    simp only [if_true, if_false, I_add, I_sub, I_mul, I_neg, I_ofNat, Option.bind_some, kIn, I_l0, I_l1, I_l2, I_l3, I_l4, I_l5, I_l6, I_l7, I_l8, I_l9, I_l10, I_l11, I_l12, I_l13, I_l40, I_l43, I_l44, I_l45, I_l48, I_l57, I_l58, I_l60, I_l61, I_l62, I_l79, I_l80, I_l100, I_l101, I_l120, I_l200, I_l201, I_l1999, I_l2000, I_l2001]
    by_cases qu : 5 ≤ u ∧ u ≤ 200
    · rw [f9_isWithin (by omega), if_pos qu, f9_isWithin (by omega), if_neg (by omega)]
      simp (disch := omega) only [if_true, if_false, I_add, I_sub, I_mul, I_neg, I_ofNat, Option.bind_some, kIn, I_l0, I_l1, I_l2, I_l3, I_l4, I_l5, I_l6, I_l7, I_l8, I_l9, I_l10, I_l11, I_l12, I_l13, I_l40, I_l43, I_l44, I_l45, I_l48, I_l57, I_l58, I_l60, I_l61, I_l62, I_l79, I_l80, I_l100, I_l101, I_l120, I_l200, I_l201, I_l1999, I_l2000, I_l2001, I_le, I_lt, I_eq, I_toInt, cz_at, cz_up, if_pos, if_neg]
    · rw [f9_isWithin (by omega), if_neg qu]
      simp (disch := omega) only [if_true, if_false, I_add, I_sub, I_mul, I_neg, I_ofNat, Option.bind_some, kIn, I_l0, I_l1, I_l2, I_l3, I_l4, I_l5, I_l6, I_l7, I_l8, I_l9, I_l10, I_l11, I_l12, I_l13, I_l40, I_l43, I_l44, I_l45, I_l48, I_l57, I_l58, I_l60, I_l61, I_l62, I_l79, I_l80, I_l100, I_l101, I_l120, I_l200, I_l201, I_l1999, I_l2000, I_l2001, I_le, I_lt, I_eq, I_toInt, cz_at, cz_up, if_pos, if_neg]
  exact obind E rfl
theorem s_clearText {x : Sg} {T : Int → Int} {t : Int} (d : tX x T t) : sClearText x = some (I t, (x.1, x.2.1, (cz T, I 0), x.2.2.2.1, x.2.2.2.2)) := by
  obtain ⟨xs, xh, ⟨t0, t1⟩, nn, yy⟩ := x
  obtain ⟨e, -, -⟩ := d
  simp only [Prod.mk.injEq] at e
  obtain ⟨rfl, rfl⟩ := e
  rfl
theorem tX_clear {T : Int → Int} {xs : vST} {xh : vHs} {nn : (Nat → Int32) × (Nat → Int32)} {yy : Int32 × Int32 × Int32 × Int32} : tX (xs, xh, (cz T, I 0), nn, yy) T 0 := ⟨rfl, by omega, fun i a b => by omega⟩
theorem s_type {x : Sg} {T : Int → Int} {t y : Int} (d : tX x T t) (ht : t < 80) (hy : 0 ≤ y ∧ y ≤ 65535) : sType x (I y) = some (I (t + 1), (x.1, x.2.1, (cz (up T t y), I (t + 1)), x.2.2.2.1, x.2.2.2.2)) ∧ tX (x.1, x.2.1, (cz (up T t y), I (t + 1)), x.2.2.2.1, x.2.2.2.2) (up T t y) (t + 1) := by
  obtain ⟨xs, xh, ⟨t0, t1⟩, nn, yy⟩ := x
  obtain ⟨e, h0, h1⟩ := d
  simp only [Prod.mk.injEq] at e
  obtain ⟨rfl, rfl⟩ := e
  have E : pX9_type (cz T) (I t) (I y) = some (I (t + 1), cz (up T t y), I (t + 1)) := by
    unfold pX9_type
    rw [f8_append (by omega)]
    simp (disch := omega) only [if_true, if_false, I_add, I_sub, I_mul, I_neg, I_ofNat, Option.bind_some, kIn, I_l0, I_l1, I_l2, I_l3, I_l4, I_l5, I_l6, I_l7, I_l8, I_l9, I_l10, I_l11, I_l12, I_l13, I_l40, I_l43, I_l44, I_l45, I_l48, I_l57, I_l58, I_l60, I_l61, I_l62, I_l79, I_l80, I_l100, I_l101, I_l120, I_l200, I_l201, I_l1999, I_l2000, I_l2001, I_le, I_lt, I_eq, I_toInt, cz_at, cz_up, if_pos, if_neg]
  refine ⟨obind E rfl, rfl, by omega, fun i a b => ?_⟩
  by_cases z : i = t
  · rw [up_at z]; exact hy
  · rw [up_ne z]; exact h1 i a (by omega)
theorem s_typeF {x : Sg} {T : Int → Int} {y : Int32} (d : tX x T 80) : sType x y = some (I (-3), x) := by
  obtain ⟨xs, xh, ⟨t0, t1⟩, nn, yy⟩ := x
  obtain ⟨e, h0, h1⟩ := d
  simp only [Prod.mk.injEq] at e
  obtain ⟨rfl, rfl⟩ := e
  have E : pX9_type (cz T) (I 80) y = some (I (-3), cz T, I 80) := by
    unfold pX9_type
    rw [f8_appendF]
    simp (disch := omega) only [if_true, if_false, I_add, I_sub, I_mul, I_neg, I_ofNat, Option.bind_some, kIn, I_l0, I_l1, I_l2, I_l3, I_l4, I_l5, I_l6, I_l7, I_l8, I_l9, I_l10, I_l11, I_l12, I_l13, I_l40, I_l43, I_l44, I_l45, I_l48, I_l57, I_l58, I_l60, I_l61, I_l62, I_l79, I_l80, I_l100, I_l101, I_l120, I_l200, I_l201, I_l1999, I_l2000, I_l2001, I_le, I_lt, I_eq, I_toInt, cz_at, cz_up, if_pos, if_neg]
  exact obind E rfl
theorem s_add0 {x : Sg} {c0 l0 o0 : Int → Int} {n0 : Int} {c1 l1 o1 : Int → Int} {n1 : Int} {L R : Int → Int} {g k w0 w1 ph h : Int} (d : dX x c0 l0 o0 n0 c1 l1 o1 n1 L R g k w0 w1 ph h) {v u : Int} (qv : 1 ≤ v ∧ v ≤ 60) (qx : 1 ≤ u ∧ u ≤ 2000) (qf : ¬ (at0 c0 n0 (n0 - 1) = 10 ∨ 60 < n0 + v)) : ∃ (x' : Sg) (c2 l2 o2 A2 B2 : Int → Int), sAddChapter x (I 0) (I v) (I u) = some (I (at0 c0 n0 (n0 - 1) + 1), x') ∧ dX x' c2 l2 o2 (n0 + v) c1 l1 o1 n1 A2 B2 (g + v) (k5 k) w0 w1 ph h ∧ hTp x'.2.1 (k5 k) x.1 ∧ x'.2.2 = x.2.2 ∧ (∀ i, 0 ≤ i → i < n0 + v → c2 i = exf c0 n0 (at0 c0 n0 (n0 - 1) + 1) i) ∧ (∀ i, 0 ≤ i → i < n0 + v → l2 i = exf l0 n0 u i) ∧ (∀ i, 0 ≤ i → i < n0 + v → o2 i = exf o0 n0 0 i) ∧ (∀ i, 0 ≤ i → i < g + v → A2 i = exf L g 1 i) ∧ (∀ i, 0 ≤ i → i < g + v → B2 i = exf R g 0 i) := by
  obtain ⟨⟨⟨v0, v1, v2, v3⟩, ⟨v4, v5, v6, v7⟩, v8, v9, v10⟩, ⟨a0, s0, s1, s2, s3, s4⟩, tx, nn, ⟨y0, y1, y2, y3⟩⟩ := x
  obtain ⟨e, ey, k0, k1, kM, hA, hw0, hw1, hph, hh⟩ := d
  simp only [Prod.mk.injEq] at e ey
  obtain ⟨⟨rfl, rfl, rfl, rfl⟩, ⟨rfl, rfl, rfl, rfl⟩, rfl, rfl, rfl⟩ := e
  obtain ⟨rfl, rfl, rfl, rfl⟩ := ey
  have hg := kM.1
  have b0 := k0.1
  have b1 := k1.1
  have T0 := at0_bd (F := c0) (n := n0) (lo := 0) (hi := 10) (fun i p z => by have := (k0.2 i p z).2.2.1; omega) (by omega) (n0 - 1)
  have gg := okM_g kM
  obtain ⟨r, t0, t1, t2, t3, t4, hs, e1, e2, e3, e4⟩ := t_record (vL0 := cz c0) (vL1 := cz l0) (vL2 := cz o0) (vL3 := I n0) (vR0 := cz c1) (vR1 := cz l1) (vR2 := cz o1) (vR3 := I n1) (vM0 := cz L) (vM1 := cz R) (vM2 := I g) hA ⟨c0, l0, o0, n0, c1, l1, o1, n1, L, R, g, rfl, k0, k1, kM⟩
  obtain ⟨c2, l2, o2, A2, B2, w1', w2', w3', w4, w5, w6⟩ := f9_add0 (c := c0) (l := l0) (o := o0) (L := L) (R := R) (n := n0) (g := g) (v := v) (x := u) (ch := at0 c0 n0 (n0 - 1) + 1) (u0 := cz c1) (u1 := cz l1) (u2 := cz o1) (u3 := I n1) (hk := I (k5 k)) (r := r) (t0 := t0) (t1 := t1) (t2 := t2) (t3 := t3) (t4 := t4) (by omega) (by omega) 4000 c0 l0 o0 L R 0 (by omega) (by omega) (by omega) (fun i p z => (exf_lo (by omega)).symm) (fun i p z => (exf_lo (by omega)).symm) (fun i p z => (exf_lo (by omega)).symm) (fun i p z => (exf_lo (by omega)).symm) (fun i p z => (exf_lo (by omega)).symm)
  have E : pX9_addChapter (cz c0) (cz l0) (cz o0) (I n0) (cz c1) (cz l1) (cz o1) (I n1) (cz L) (cz R) (I g) a0 s0 s1 s2 s3 s4 (I 0) (I v) (I u) = some (I (at0 c0 n0 (n0 - 1) + 1), cz c2, cz l2, cz o2, I (n0 + v), cz c1, cz l1, cz o1, I n1, cz A2, cz B2, I (g + v), I (k5 k), r, t0, t1, t2, t3, t4) := by
    unfold pX9_addChapter
    simp only [if_true, if_false, I_add, I_sub, I_mul, I_neg, I_ofNat, Option.bind_some, kIn, I_l0, I_l1, I_l2, I_l3, I_l4, I_l5, I_l6, I_l7, I_l8, I_l9, I_l10, I_l11, I_l12, I_l13, I_l40, I_l43, I_l44, I_l45, I_l48, I_l57, I_l58, I_l60, I_l61, I_l62, I_l79, I_l80, I_l100, I_l101, I_l120, I_l200, I_l201, I_l1999, I_l2000, I_l2001]
    rw [f9_isBook (by omega), if_pos (Or.inl rfl), f9_isWithin (by omega), f9_isWithin (by omega), if_pos qv, if_pos qx, f0_chapterTotal b0]
    simp (disch := omega) only [if_true, if_false, I_add, I_sub, I_mul, I_neg, I_ofNat, Option.bind_some, kIn, I_l0, I_l1, I_l2, I_l3, I_l4, I_l5, I_l6, I_l7, I_l8, I_l9, I_l10, I_l11, I_l12, I_l13, I_l40, I_l43, I_l44, I_l45, I_l48, I_l57, I_l58, I_l60, I_l61, I_l62, I_l79, I_l80, I_l100, I_l101, I_l120, I_l200, I_l201, I_l1999, I_l2000, I_l2001, I_eq, I_le, I_lt, if_neg, if_pos]
    rw [Int.add_zero, Int.add_zero] at w6
    exact obind e1 w6
  exact ⟨(((cz c2, cz l2, cz o2, I (n0 + v)), (cz c1, cz l1, cz o1, I n1), (cz A2, cz B2, I (g + v))), hs, tx, nn, (I w0, I w1, I ph, I h)), c2, l2, o2, A2, B2, obind E (obind e2 rfl), ⟨rfl, rfl, okB_exf k0 (by omega) qx (by omega) w1' w2' w3', k1, okM_exf kM (by omega) (Or.inl ⟨rfl, rfl, rfl, rfl⟩) (by omega) w4 w5, e4, hw0, hw1, hph, hh⟩, e3, rfl, w1', w2', w3', w4, w5⟩
theorem s_addF0 {x : Sg} {c0 l0 o0 : Int → Int} {n0 : Int} {c1 l1 o1 : Int → Int} {n1 : Int} {L R : Int → Int} {g k w0 w1 ph h : Int} (d : dX x c0 l0 o0 n0 c1 l1 o1 n1 L R g k w0 w1 ph h) {v u : Int} (qv : 1 ≤ v ∧ v ≤ 60) (qx : 1 ≤ u ∧ u ≤ 2000) (qf : at0 c0 n0 (n0 - 1) = 10 ∨ 60 < n0 + v) : sAddChapter x (I 0) (I v) (I u) = some (I (-3), x) := by
  obtain ⟨⟨⟨v0, v1, v2, v3⟩, ⟨v4, v5, v6, v7⟩, v8, v9, v10⟩, ⟨a0, s0, s1, s2, s3, s4⟩, tx, nn, ⟨y0, y1, y2, y3⟩⟩ := x
  obtain ⟨e, ey, k0, k1, kM, hA, hw0, hw1, hph, hh⟩ := d
  simp only [Prod.mk.injEq] at e ey
  obtain ⟨⟨rfl, rfl, rfl, rfl⟩, ⟨rfl, rfl, rfl, rfl⟩, rfl, rfl, rfl⟩ := e
  obtain ⟨rfl, rfl, rfl, rfl⟩ := ey
  have hg := kM.1
  have b0 := k0.1
  have b1 := k1.1
  have hA0 := hA
  obtain ⟨hk0, hk, -⟩ := hA
  have hk1 : a0 = I k := hk0
  subst hk1
  have eN : nH (I k) 0 s0 s1 s2 s3 s4 = some (I k, s0, s1, s2, s3, s4) := rfl
  have T0 := at0_bd (F := c0) (n := n0) (lo := 0) (hi := 10) (fun i p z => by have := (k0.2 i p z).2.2.1; omega) (by omega) (n0 - 1)
  have E : pX9_addChapter (cz c0) (cz l0) (cz o0) (I n0) (cz c1) (cz l1) (cz o1) (I n1) (cz L) (cz R) (I g) (I k) s0 s1 s2 s3 s4 (I 0) (I v) (I u) = some (I (-3), cz c0, cz l0, cz o0, I n0, cz c1, cz l1, cz o1, I n1, cz L, cz R, I g, I k, 0, s0, s1, s2, s3, s4) := by
    unfold pX9_addChapter
    simp only [if_true, if_false, I_add, I_sub, I_mul, I_neg, I_ofNat, Option.bind_some, kIn, I_l0, I_l1, I_l2, I_l3, I_l4, I_l5, I_l6, I_l7, I_l8, I_l9, I_l10, I_l11, I_l12, I_l13, I_l40, I_l43, I_l44, I_l45, I_l48, I_l57, I_l58, I_l60, I_l61, I_l62, I_l79, I_l80, I_l100, I_l101, I_l120, I_l200, I_l201, I_l1999, I_l2000, I_l2001]
    rw [f9_isBook (by omega), if_pos (Or.inl rfl), f9_isWithin (by omega), f9_isWithin (by omega), if_pos qv, if_pos qx, f0_chapterTotal b0]
    simp (disch := omega) only [if_true, if_false, I_add, I_sub, I_mul, I_neg, I_ofNat, Option.bind_some, kIn, I_l0, I_l1, I_l2, I_l3, I_l4, I_l5, I_l6, I_l7, I_l8, I_l9, I_l10, I_l11, I_l12, I_l13, I_l40, I_l43, I_l44, I_l45, I_l48, I_l57, I_l58, I_l60, I_l61, I_l62, I_l79, I_l80, I_l100, I_l101, I_l120, I_l200, I_l201, I_l1999, I_l2000, I_l2001, I_eq, I_le, I_lt, if_neg, if_true]
    repeat' split
    all_goals first | rfl | (exfalso; omega)
  exact obind E (obind eN rfl)
theorem s_add1 {x : Sg} {c0 l0 o0 : Int → Int} {n0 : Int} {c1 l1 o1 : Int → Int} {n1 : Int} {L R : Int → Int} {g k w0 w1 ph h : Int} (d : dX x c0 l0 o0 n0 c1 l1 o1 n1 L R g k w0 w1 ph h) {v u : Int} (qv : 1 ≤ v ∧ v ≤ 60) (qx : 1 ≤ u ∧ u ≤ 2000) (qf : ¬ (at0 c1 n1 (n1 - 1) = 10 ∨ 60 < n1 + v)) : ∃ (x' : Sg) (c2 l2 o2 A2 B2 : Int → Int), sAddChapter x (I 1) (I v) (I u) = some (I (at0 c1 n1 (n1 - 1) + 1), x') ∧ dX x' c0 l0 o0 n0 c2 l2 o2 (n1 + v) A2 B2 (g + v) (k5 k) w0 w1 ph h ∧ hTp x'.2.1 (k5 k) x.1 ∧ x'.2.2 = x.2.2 ∧ (∀ i, 0 ≤ i → i < n1 + v → c2 i = exf c1 n1 (at0 c1 n1 (n1 - 1) + 1) i) ∧ (∀ i, 0 ≤ i → i < n1 + v → l2 i = exf l1 n1 u i) ∧ (∀ i, 0 ≤ i → i < n1 + v → o2 i = exf o1 n1 0 i) ∧ (∀ i, 0 ≤ i → i < g + v → A2 i = exf L g 0 i) ∧ (∀ i, 0 ≤ i → i < g + v → B2 i = exf R g 1 i) := by
  obtain ⟨⟨⟨v0, v1, v2, v3⟩, ⟨v4, v5, v6, v7⟩, v8, v9, v10⟩, ⟨a0, s0, s1, s2, s3, s4⟩, tx, nn, ⟨y0, y1, y2, y3⟩⟩ := x
  obtain ⟨e, ey, k0, k1, kM, hA, hw0, hw1, hph, hh⟩ := d
  simp only [Prod.mk.injEq] at e ey
  obtain ⟨⟨rfl, rfl, rfl, rfl⟩, ⟨rfl, rfl, rfl, rfl⟩, rfl, rfl, rfl⟩ := e
  obtain ⟨rfl, rfl, rfl, rfl⟩ := ey
  have hg := kM.1
  have b0 := k0.1
  have b1 := k1.1
  have T0 := at0_bd (F := c1) (n := n1) (lo := 0) (hi := 10) (fun i p z => by have := (k1.2 i p z).2.2.1; omega) (by omega) (n1 - 1)
  have gg := okM_g kM
  obtain ⟨r, t0, t1, t2, t3, t4, hs, e1, e2, e3, e4⟩ := t_record (vL0 := cz c0) (vL1 := cz l0) (vL2 := cz o0) (vL3 := I n0) (vR0 := cz c1) (vR1 := cz l1) (vR2 := cz o1) (vR3 := I n1) (vM0 := cz L) (vM1 := cz R) (vM2 := I g) hA ⟨c0, l0, o0, n0, c1, l1, o1, n1, L, R, g, rfl, k0, k1, kM⟩
  obtain ⟨c2, l2, o2, A2, B2, w1', w2', w3', w4, w5, w6⟩ := f9_add1 (c := c1) (l := l1) (o := o1) (L := L) (R := R) (n := n1) (g := g) (v := v) (x := u) (ch := at0 c1 n1 (n1 - 1) + 1) (u0 := cz c0) (u1 := cz l0) (u2 := cz o0) (u3 := I n0) (hk := I (k5 k)) (r := r) (t0 := t0) (t1 := t1) (t2 := t2) (t3 := t3) (t4 := t4) (by omega) (by omega) 4000 c1 l1 o1 L R 0 (by omega) (by omega) (by omega) (fun i p z => (exf_lo (by omega)).symm) (fun i p z => (exf_lo (by omega)).symm) (fun i p z => (exf_lo (by omega)).symm) (fun i p z => (exf_lo (by omega)).symm) (fun i p z => (exf_lo (by omega)).symm)
  have E : pX9_addChapter (cz c0) (cz l0) (cz o0) (I n0) (cz c1) (cz l1) (cz o1) (I n1) (cz L) (cz R) (I g) a0 s0 s1 s2 s3 s4 (I 1) (I v) (I u) = some (I (at0 c1 n1 (n1 - 1) + 1), cz c0, cz l0, cz o0, I n0, cz c2, cz l2, cz o2, I (n1 + v), cz A2, cz B2, I (g + v), I (k5 k), r, t0, t1, t2, t3, t4) := by
    unfold pX9_addChapter
    simp only [if_true, if_false, I_add, I_sub, I_mul, I_neg, I_ofNat, Option.bind_some, kIn, I_l0, I_l1, I_l2, I_l3, I_l4, I_l5, I_l6, I_l7, I_l8, I_l9, I_l10, I_l11, I_l12, I_l13, I_l40, I_l43, I_l44, I_l45, I_l48, I_l57, I_l58, I_l60, I_l61, I_l62, I_l79, I_l80, I_l100, I_l101, I_l120, I_l200, I_l201, I_l1999, I_l2000, I_l2001]
    rw [f9_isBook (by omega), if_pos (Or.inr rfl), f9_isWithin (by omega), f9_isWithin (by omega), if_pos qv, if_pos qx, f0_chapterTotal b1]
    simp (disch := omega) only [if_true, if_false, I_add, I_sub, I_mul, I_neg, I_ofNat, Option.bind_some, kIn, I_l0, I_l1, I_l2, I_l3, I_l4, I_l5, I_l6, I_l7, I_l8, I_l9, I_l10, I_l11, I_l12, I_l13, I_l40, I_l43, I_l44, I_l45, I_l48, I_l57, I_l58, I_l60, I_l61, I_l62, I_l79, I_l80, I_l100, I_l101, I_l120, I_l200, I_l201, I_l1999, I_l2000, I_l2001, I_eq, I_le, I_lt, if_neg, if_pos]
    rw [Int.add_zero, Int.add_zero] at w6
    exact obind e1 w6
  exact ⟨(((cz c0, cz l0, cz o0, I n0), (cz c2, cz l2, cz o2, I (n1 + v)), (cz A2, cz B2, I (g + v))), hs, tx, nn, (I w0, I w1, I ph, I h)), c2, l2, o2, A2, B2, obind E (obind e2 rfl), ⟨rfl, rfl, k0, okB_exf k1 (by omega) qx (by omega) w1' w2' w3', okM_exf kM (by omega) (Or.inr ⟨rfl, rfl, rfl, rfl⟩) (by omega) w4 w5, e4, hw0, hw1, hph, hh⟩, e3, rfl, w1', w2', w3', w4, w5⟩
theorem s_addF1 {x : Sg} {c0 l0 o0 : Int → Int} {n0 : Int} {c1 l1 o1 : Int → Int} {n1 : Int} {L R : Int → Int} {g k w0 w1 ph h : Int} (d : dX x c0 l0 o0 n0 c1 l1 o1 n1 L R g k w0 w1 ph h) {v u : Int} (qv : 1 ≤ v ∧ v ≤ 60) (qx : 1 ≤ u ∧ u ≤ 2000) (qf : at0 c1 n1 (n1 - 1) = 10 ∨ 60 < n1 + v) : sAddChapter x (I 1) (I v) (I u) = some (I (-3), x) := by
  obtain ⟨⟨⟨v0, v1, v2, v3⟩, ⟨v4, v5, v6, v7⟩, v8, v9, v10⟩, ⟨a0, s0, s1, s2, s3, s4⟩, tx, nn, ⟨y0, y1, y2, y3⟩⟩ := x
  obtain ⟨e, ey, k0, k1, kM, hA, hw0, hw1, hph, hh⟩ := d
  simp only [Prod.mk.injEq] at e ey
  obtain ⟨⟨rfl, rfl, rfl, rfl⟩, ⟨rfl, rfl, rfl, rfl⟩, rfl, rfl, rfl⟩ := e
  obtain ⟨rfl, rfl, rfl, rfl⟩ := ey
  have hg := kM.1
  have b0 := k0.1
  have b1 := k1.1
  have hA0 := hA
  obtain ⟨hk0, hk, -⟩ := hA
  have hk1 : a0 = I k := hk0
  subst hk1
  have eN : nH (I k) 0 s0 s1 s2 s3 s4 = some (I k, s0, s1, s2, s3, s4) := rfl
  have T0 := at0_bd (F := c1) (n := n1) (lo := 0) (hi := 10) (fun i p z => by have := (k1.2 i p z).2.2.1; omega) (by omega) (n1 - 1)
  have E : pX9_addChapter (cz c0) (cz l0) (cz o0) (I n0) (cz c1) (cz l1) (cz o1) (I n1) (cz L) (cz R) (I g) (I k) s0 s1 s2 s3 s4 (I 1) (I v) (I u) = some (I (-3), cz c0, cz l0, cz o0, I n0, cz c1, cz l1, cz o1, I n1, cz L, cz R, I g, I k, 0, s0, s1, s2, s3, s4) := by
    unfold pX9_addChapter
    simp only [if_true, if_false, I_add, I_sub, I_mul, I_neg, I_ofNat, Option.bind_some, kIn, I_l0, I_l1, I_l2, I_l3, I_l4, I_l5, I_l6, I_l7, I_l8, I_l9, I_l10, I_l11, I_l12, I_l13, I_l40, I_l43, I_l44, I_l45, I_l48, I_l57, I_l58, I_l60, I_l61, I_l62, I_l79, I_l80, I_l100, I_l101, I_l120, I_l200, I_l201, I_l1999, I_l2000, I_l2001]
    rw [f9_isBook (by omega), if_pos (Or.inr rfl), f9_isWithin (by omega), f9_isWithin (by omega), if_pos qv, if_pos qx, f0_chapterTotal b1]
    simp (disch := omega) only [if_true, if_false, I_add, I_sub, I_mul, I_neg, I_ofNat, Option.bind_some, kIn, I_l0, I_l1, I_l2, I_l3, I_l4, I_l5, I_l6, I_l7, I_l8, I_l9, I_l10, I_l11, I_l12, I_l13, I_l40, I_l43, I_l44, I_l45, I_l48, I_l57, I_l58, I_l60, I_l61, I_l62, I_l79, I_l80, I_l100, I_l101, I_l120, I_l200, I_l201, I_l1999, I_l2000, I_l2001, I_eq, I_le, I_lt, if_neg, if_true]
    repeat' split
    all_goals first | rfl | (exfalso; omega)
  exact obind E (obind eN rfl)
theorem sE_add2 {x : Sg} {c0 l0 o0 : Int → Int} {n0 : Int} {c1 l1 o1 : Int → Int} {n1 : Int} {L R : Int → Int} {g k w0 w1 ph h : Int} (d : dX x c0 l0 o0 n0 c1 l1 o1 n1 L R g k w0 w1 ph h) {b v u : Int} (q : b = 0 ∨ b = 1) (hr : (-2147483648 ≤ v ∧ v ≤ 2147483647) ∧ -2147483648 ≤ u ∧ u ≤ 2147483647) (qx : ¬ ((1 ≤ v ∧ v ≤ 60) ∧ 1 ≤ u ∧ u ≤ 2000)) : sAddChapter x (I b) (I v) (I u) = some (I (-2), x) := by
  obtain ⟨⟨⟨v0, v1, v2, v3⟩, ⟨v4, v5, v6, v7⟩, v8, v9, v10⟩, ⟨a0, s0, s1, s2, s3, s4⟩, tx, nn, ⟨y0, y1, y2, y3⟩⟩ := x
  obtain ⟨e, ey, k0, k1, kM, hA, hw0, hw1, hph, hh⟩ := d
  simp only [Prod.mk.injEq] at e ey
  obtain ⟨⟨rfl, rfl, rfl, rfl⟩, ⟨rfl, rfl, rfl, rfl⟩, rfl, rfl, rfl⟩ := e
  obtain ⟨rfl, rfl, rfl, rfl⟩ := ey
  have hg := kM.1
  have b0 := k0.1
  have b1 := k1.1
  have hA0 := hA
  obtain ⟨hk0, hk, -⟩ := hA
  have hk1 : a0 = I k := hk0
  subst hk1
  have eN : nH (I k) 0 s0 s1 s2 s3 s4 = some (I k, s0, s1, s2, s3, s4) := rfl
  have E : pX9_addChapter (cz c0) (cz l0) (cz o0) (I n0) (cz c1) (cz l1) (cz o1) (I n1) (cz L) (cz R) (I g) (I k) s0 s1 s2 s3 s4 (I b) (I v) (I u) = some (I (-2), cz c0, cz l0, cz o0, I n0, cz c1, cz l1, cz o1, I n1, cz L, cz R, I g, I k, 0, s0, s1, s2, s3, s4) := by
    unfold pX9_addChapter
    simp only [if_true, if_false, I_add, I_sub, I_mul, I_neg, I_ofNat, Option.bind_some, kIn, I_l0, I_l1, I_l2, I_l3, I_l4, I_l5, I_l6, I_l7, I_l8, I_l9, I_l10, I_l11, I_l12, I_l13, I_l40, I_l43, I_l44, I_l45, I_l48, I_l57, I_l58, I_l60, I_l61, I_l62, I_l79, I_l80, I_l100, I_l101, I_l120, I_l200, I_l201, I_l1999, I_l2000, I_l2001]
    by_cases qv : 1 ≤ v ∧ v ≤ 60
    · rw [f9_isBook (by omega), if_pos q, f9_isWithin (by omega), f9_isWithin (by omega), if_pos qv, if_neg (by omega)]
      simp (disch := omega) only [if_true, if_false, I_add, I_sub, I_mul, I_neg, I_ofNat, Option.bind_some, kIn, I_l0, I_l1, I_l2, I_l3, I_l4, I_l5, I_l6, I_l7, I_l8, I_l9, I_l10, I_l11, I_l12, I_l13, I_l40, I_l43, I_l44, I_l45, I_l48, I_l57, I_l58, I_l60, I_l61, I_l62, I_l79, I_l80, I_l100, I_l101, I_l120, I_l200, I_l201, I_l1999, I_l2000, I_l2001, I_eq, if_neg, if_true]
    · rw [f9_isBook (by omega), if_pos q, f9_isWithin (by omega), if_neg qv]
      simp (disch := omega) only [if_true, if_false, I_add, I_sub, I_mul, I_neg, I_ofNat, Option.bind_some, kIn, I_l0, I_l1, I_l2, I_l3, I_l4, I_l5, I_l6, I_l7, I_l8, I_l9, I_l10, I_l11, I_l12, I_l13, I_l40, I_l43, I_l44, I_l45, I_l48, I_l57, I_l58, I_l60, I_l61, I_l62, I_l79, I_l80, I_l100, I_l101, I_l120, I_l200, I_l201, I_l1999, I_l2000, I_l2001, I_eq, if_neg, if_true]
  exact obind E (obind eN rfl)
theorem sE_add1 {x : Sg} {c0 l0 o0 : Int → Int} {n0 : Int} {c1 l1 o1 : Int → Int} {n1 : Int} {L R : Int → Int} {g k w0 w1 ph h : Int} (d : dX x c0 l0 o0 n0 c1 l1 o1 n1 L R g k w0 w1 ph h) {b : Int} {i2 i3 : Int32} (q : ¬ (b = 0 ∨ b = 1)) (hr : -2147483648 ≤ b ∧ b ≤ 2147483647) : sAddChapter x (I b) i2 i3 = some (I (-1), x) := by
  obtain ⟨⟨⟨v0, v1, v2, v3⟩, ⟨v4, v5, v6, v7⟩, v8, v9, v10⟩, ⟨a0, s0, s1, s2, s3, s4⟩, tx, nn, ⟨y0, y1, y2, y3⟩⟩ := x
  obtain ⟨e, ey, k0, k1, kM, hA, hw0, hw1, hph, hh⟩ := d
  simp only [Prod.mk.injEq] at e ey
  obtain ⟨⟨rfl, rfl, rfl, rfl⟩, ⟨rfl, rfl, rfl, rfl⟩, rfl, rfl, rfl⟩ := e
  obtain ⟨rfl, rfl, rfl, rfl⟩ := ey
  have hg := kM.1
  have b0 := k0.1
  have b1 := k1.1
  have hA0 := hA
  obtain ⟨hk0, hk, -⟩ := hA
  have hk1 : a0 = I k := hk0
  subst hk1
  have eN : nH (I k) 0 s0 s1 s2 s3 s4 = some (I k, s0, s1, s2, s3, s4) := rfl
  have E : pX9_addChapter (cz c0) (cz l0) (cz o0) (I n0) (cz c1) (cz l1) (cz o1) (I n1) (cz L) (cz R) (I g) (I k) s0 s1 s2 s3 s4 (I b) i2 i3 = some (I (-1), cz c0, cz l0, cz o0, I n0, cz c1, cz l1, cz o1, I n1, cz L, cz R, I g, I k, 0, s0, s1, s2, s3, s4) := by
    unfold pX9_addChapter
    simp only [if_true, if_false, I_add, I_sub, I_mul, I_neg, I_ofNat, Option.bind_some, kIn, I_l0, I_l1, I_l2, I_l3, I_l4, I_l5, I_l6, I_l7, I_l8, I_l9, I_l10, I_l11, I_l12, I_l13, I_l40, I_l43, I_l44, I_l45, I_l48, I_l57, I_l58, I_l60, I_l61, I_l62, I_l79, I_l80, I_l100, I_l101, I_l120, I_l200, I_l201, I_l1999, I_l2000, I_l2001]
    rw [f9_isBook (by omega), if_neg q]
    simp (disch := omega) only [if_true, if_false, I_add, I_sub, I_mul, I_neg, I_ofNat, Option.bind_some, kIn, I_l0, I_l1, I_l2, I_l3, I_l4, I_l5, I_l6, I_l7, I_l8, I_l9, I_l10, I_l11, I_l12, I_l13, I_l40, I_l43, I_l44, I_l45, I_l48, I_l57, I_l58, I_l60, I_l61, I_l62, I_l79, I_l80, I_l100, I_l101, I_l120, I_l200, I_l201, I_l1999, I_l2000, I_l2001, I_eq, if_pos]
  exact obind E (obind eN rfl)
