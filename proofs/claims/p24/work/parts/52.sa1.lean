-- acts: link, part, pairAll, undo, exchange, setVerse (printed by wip/p24/fun/mk52.py)
theorem s_link {x : Sg} {c0 l0 o0 : Int → Int} {n0 : Int} {c1 l1 o1 : Int → Int} {n1 : Int} {L R : Int → Int} {g k w0 w1 ph h : Int} (d : dX x c0 l0 o0 n0 c1 l1 o1 n1 L R g k w0 w1 ph h) {a : Int} (ha : 0 ≤ a ∧ a + 1 < g) : ∃ (x' : Sg) (L2 R2 : Int → Int), sLink x (I a) = some (I (g - 1), x') ∧ dX x' c0 l0 o0 n0 c1 l1 o1 n1 L2 R2 (g - 1) (k5 k) w0 w1 ph h ∧ hTp x'.2.1 (k5 k) x.1 ∧ x'.2.2 = x.2.2 ∧ ∀ i, 0 ≤ i → i < g - 1 → L2 i = mrg L a (a + 1) i ∧ R2 i = mrg R a (a + 1) i := by
  obtain ⟨⟨⟨v0, v1, v2, v3⟩, ⟨v4, v5, v6, v7⟩, v8, v9, v10⟩, ⟨a0, s0, s1, s2, s3, s4⟩, tx, nn, ⟨y0, y1, y2, y3⟩⟩ := x
  obtain ⟨e, ey, k0, k1, kM, hA, hw0, hw1, hph, hh⟩ := d
  simp only [Prod.mk.injEq] at e ey
  obtain ⟨⟨rfl, rfl, rfl, rfl⟩, ⟨rfl, rfl, rfl, rfl⟩, rfl, rfl, rfl⟩ := e
  obtain ⟨rfl, rfl, rfl, rfl⟩ := ey
  have hg := kM.1
  have b0 := k0.1
  have b1 := k1.1
  obtain ⟨r, t0, t1, t2, t3, t4, hs, e1, e2, e3, e4⟩ := t_record (vL0 := cz c0) (vL1 := cz l0) (vL2 := cz o0) (vL3 := I n0) (vR0 := cz c1) (vR1 := cz l1) (vR2 := cz o1) (vR3 := I n1) (vM0 := cz L) (vM1 := cz R) (vM2 := I g) hA ⟨c0, l0, o0, n0, c1, l1, o1, n1, L, R, g, rfl, k0, k1, kM⟩
  obtain ⟨L2, R2, u4, u5⟩ := f1_mergeM (L := L) (R := R) (g := g) (a := a) (c := a + 1) (by omega)
  rw [show g - (a + 1 - a) = g - 1 by omega] at u4 u5
  have hM := okM_mrg kM ⟨b0.2, b1.2⟩ (a := a) (c := a + 1) (by omega)
  rw [show g - (a + 1 - a) = g - 1 by omega] at hM
  refine ⟨(((cz c0, cz l0, cz o0, I n0), (cz c1, cz l1, cz o1, I n1), (cz L2, cz R2, I (g - 1))), hs, tx, nn, (I w0, I w1, I ph, I h)), L2, R2, ?_, ⟨rfl, rfl, k0, k1, hM.val u4, e4, hw0, hw1, hph, hh⟩, e3, rfl, u4⟩
  have E : pX9_link (cz c0) (cz l0) (cz o0) (I n0) (cz c1) (cz l1) (cz o1) (I n1) (cz L) (cz R) (I g) a0 s0 s1 s2 s3 s4 (I a) = some (I (g - 1), cz L2, cz R2, I (g - 1), I (k5 k), r, t0, t1, t2, t3, t4) := by
    unfold pX9_link
    simp only [if_true, if_false, I_add, I_sub, I_mul, I_neg, I_ofNat, Option.bind_some, kIn, I_l0, I_l1, I_l2, I_l3, I_l4, I_l5, I_l6, I_l7, I_l8, I_l9, I_l10, I_l11, I_l12, I_l13, I_l40, I_l43, I_l44, I_l45, I_l48, I_l57, I_l58, I_l60, I_l61, I_l62, I_l79, I_l80, I_l100, I_l101, I_l120, I_l200, I_l201, I_l1999, I_l2000, I_l2001]
    rw [f1_hasT (by omega), f1_hasT (by omega), e1, u5]
    simp (disch := omega) only [if_true, if_false, I_add, I_sub, I_mul, I_neg, I_ofNat, Option.bind_some, kIn, I_l0, I_l1, I_l2, I_l3, I_l4, I_l5, I_l6, I_l7, I_l8, I_l9, I_l10, I_l11, I_l12, I_l13, I_l40, I_l43, I_l44, I_l45, I_l48, I_l57, I_l58, I_l60, I_l61, I_l62, I_l79, I_l80, I_l100, I_l101, I_l120, I_l200, I_l201, I_l1999, I_l2000, I_l2001, I_eq, if_neg]
  exact obind E (obind e2 rfl)
theorem s_link4 {x : Sg} {c0 l0 o0 : Int → Int} {n0 : Int} {c1 l1 o1 : Int → Int} {n1 : Int} {L R : Int → Int} {g k w0 w1 ph h : Int} (d : dX x c0 l0 o0 n0 c1 l1 o1 n1 L R g k w0 w1 ph h) {a : Int} (ha : 0 ≤ a ∧ a + 1 = g) : sLink x (I a) = some (I (-4), x) := by
  obtain ⟨⟨⟨v0, v1, v2, v3⟩, ⟨v4, v5, v6, v7⟩, v8, v9, v10⟩, ⟨a0, s0, s1, s2, s3, s4⟩, tx, nn, ⟨y0, y1, y2, y3⟩⟩ := x
  obtain ⟨e, ey, k0, k1, kM, hA, hw0, hw1, hph, hh⟩ := d
  simp only [Prod.mk.injEq] at e ey
  obtain ⟨⟨rfl, rfl, rfl, rfl⟩, ⟨rfl, rfl, rfl, rfl⟩, rfl, rfl, rfl⟩ := e
  obtain ⟨rfl, rfl, rfl, rfl⟩ := ey
  have hg := kM.1
  have b0 := k0.1
  have b1 := k1.1
  have hA0 := hA
  obtain ⟨hk0, hk, -⟩ := hA
  have hk1 : a0 = I k := hk0
  subst hk1
  have eN : nH (I k) 0 s0 s1 s2 s3 s4 = some (I k, s0, s1, s2, s3, s4) := rfl
  have E : pX9_link (cz c0) (cz l0) (cz o0) (I n0) (cz c1) (cz l1) (cz o1) (I n1) (cz L) (cz R) (I g) (I k) s0 s1 s2 s3 s4 (I a) = some (I (-4), cz L, cz R, I g, I k, 0, s0, s1, s2, s3, s4) := by
    unfold pX9_link
    simp only [if_true, if_false, I_add, I_sub, I_mul, I_neg, I_ofNat, Option.bind_some, kIn, I_l0, I_l1, I_l2, I_l3, I_l4, I_l5, I_l6, I_l7, I_l8, I_l9, I_l10, I_l11, I_l12, I_l13, I_l40, I_l43, I_l44, I_l45, I_l48, I_l57, I_l58, I_l60, I_l61, I_l62, I_l79, I_l80, I_l100, I_l101, I_l120, I_l200, I_l201, I_l1999, I_l2000, I_l2001]
    rw [f1_hasT (by omega), f1_hasF (by omega)]
    simp (disch := omega) only [if_true, if_false, I_add, I_sub, I_mul, I_neg, I_ofNat, Option.bind_some, kIn, I_l0, I_l1, I_l2, I_l3, I_l4, I_l5, I_l6, I_l7, I_l8, I_l9, I_l10, I_l11, I_l12, I_l13, I_l40, I_l43, I_l44, I_l45, I_l48, I_l57, I_l58, I_l60, I_l61, I_l62, I_l79, I_l80, I_l100, I_l101, I_l120, I_l200, I_l201, I_l1999, I_l2000, I_l2001, I_eq, if_neg, if_pos]
  exact obind E (obind eN rfl)
theorem s_link1 {x : Sg} {c0 l0 o0 : Int → Int} {n0 : Int} {c1 l1 o1 : Int → Int} {n1 : Int} {L R : Int → Int} {g k w0 w1 ph h : Int} (d : dX x c0 l0 o0 n0 c1 l1 o1 n1 L R g k w0 w1 ph h) {a : Int} (ha : ¬ (0 ≤ a ∧ a < g)) (hr : -2147483648 ≤ a ∧ a ≤ 2147483647) : sLink x (I a) = some (I (-1), x) := by
  obtain ⟨⟨⟨v0, v1, v2, v3⟩, ⟨v4, v5, v6, v7⟩, v8, v9, v10⟩, ⟨a0, s0, s1, s2, s3, s4⟩, tx, nn, ⟨y0, y1, y2, y3⟩⟩ := x
  obtain ⟨e, ey, k0, k1, kM, hA, hw0, hw1, hph, hh⟩ := d
  simp only [Prod.mk.injEq] at e ey
  obtain ⟨⟨rfl, rfl, rfl, rfl⟩, ⟨rfl, rfl, rfl, rfl⟩, rfl, rfl, rfl⟩ := e
  obtain ⟨rfl, rfl, rfl, rfl⟩ := ey
  have hg := kM.1
  have b0 := k0.1
  have b1 := k1.1
  have hA0 := hA
  obtain ⟨hk0, hk, -⟩ := hA
  have hk1 : a0 = I k := hk0
  subst hk1
  have eN : nH (I k) 0 s0 s1 s2 s3 s4 = some (I k, s0, s1, s2, s3, s4) := rfl
  have E : pX9_link (cz c0) (cz l0) (cz o0) (I n0) (cz c1) (cz l1) (cz o1) (I n1) (cz L) (cz R) (I g) (I k) s0 s1 s2 s3 s4 (I a) = some (I (-1), cz L, cz R, I g, I k, 0, s0, s1, s2, s3, s4) := by
    unfold pX9_link
    simp only [if_true, if_false, I_add, I_sub, I_mul, I_neg, I_ofNat, Option.bind_some, kIn, I_l0, I_l1, I_l2, I_l3, I_l4, I_l5, I_l6, I_l7, I_l8, I_l9, I_l10, I_l11, I_l12, I_l13, I_l40, I_l43, I_l44, I_l45, I_l48, I_l57, I_l58, I_l60, I_l61, I_l62, I_l79, I_l80, I_l100, I_l101, I_l120, I_l200, I_l201, I_l1999, I_l2000, I_l2001]
    rw [f1_hasF (by omega)]
    simp (disch := omega) only [if_true, if_false, I_add, I_sub, I_mul, I_neg, I_ofNat, Option.bind_some, kIn, I_l0, I_l1, I_l2, I_l3, I_l4, I_l5, I_l6, I_l7, I_l8, I_l9, I_l10, I_l11, I_l12, I_l13, I_l40, I_l43, I_l44, I_l45, I_l48, I_l57, I_l58, I_l60, I_l61, I_l62, I_l79, I_l80, I_l100, I_l101, I_l120, I_l200, I_l201, I_l1999, I_l2000, I_l2001, I_eq, if_pos]
  exact obind E (obind eN rfl)
theorem s_part {x : Sg} {c0 l0 o0 : Int → Int} {n0 : Int} {c1 l1 o1 : Int → Int} {n1 : Int} {L R : Int → Int} {g k w0 w1 ph h : Int} (d : dX x c0 l0 o0 n0 c1 l1 o1 n1 L R g k w0 w1 ph h) {a u v : Int} (q : 0 ≤ a ∧ a < g) (qx : 0 ≤ u ∧ u ≤ 60) (qy : 0 ≤ v ∧ v ≤ 60) (qb : ¬ (L a - u < 0 ∨ R a - v < 0 ∨ u + v = 0 ∨ L a - u + (R a - v) = 0)) : ∃ (x' : Sg) (L2 R2 : Int → Int), sPart x (I a) (I u) (I v) = some (I (g + 1), x') ∧ dX x' c0 l0 o0 n0 c1 l1 o1 n1 L2 R2 (g + 1) (k5 k) w0 w1 ph h ∧ hTp x'.2.1 (k5 k) x.1 ∧ x'.2.2 = x.2.2 ∧ ∀ i, 0 ≤ i → i < g + 1 → L2 i = ctf L a u i ∧ R2 i = ctf R a v i := by
  obtain ⟨⟨⟨v0, v1, v2, v3⟩, ⟨v4, v5, v6, v7⟩, v8, v9, v10⟩, ⟨a0, s0, s1, s2, s3, s4⟩, tx, nn, ⟨y0, y1, y2, y3⟩⟩ := x
  obtain ⟨e, ey, k0, k1, kM, hA, hw0, hw1, hph, hh⟩ := d
  simp only [Prod.mk.injEq] at e ey
  obtain ⟨⟨rfl, rfl, rfl, rfl⟩, ⟨rfl, rfl, rfl, rfl⟩, rfl, rfl, rfl⟩ := e
  obtain ⟨rfl, rfl, rfl, rfl⟩ := ey
  have hg := kM.1
  have b0 := k0.1
  have b1 := k1.1
  have ka := kM.2.1 a q.1 q.2
  have g2 := okM_g2 kM q (by omega)
  obtain ⟨r, t0, t1, t2, t3, t4, hs, e1, e2, e3, e4⟩ := t_record (vL0 := cz c0) (vL1 := cz l0) (vL2 := cz o0) (vL3 := I n0) (vR0 := cz c1) (vR1 := cz l1) (vR2 := cz o1) (vR3 := I n1) (vM0 := cz L) (vM1 := cz R) (vM2 := I g) hA ⟨c0, l0, o0, n0, c1, l1, o1, n1, L, R, g, rfl, k0, k1, kM⟩
  have hc : ∀ i, 0 ≤ i → i < g + 1 → up (up (opn L 120 a g) a u) (a + 1) (L a - u) i = ctf L a u i ∧ up (up (opn R 120 a g) a v) (a + 1) (R a - v) i = ctf R a v i := fun i y z => ⟨ctf_class (by omega) ⟨y, z⟩, ctf_class (by omega) ⟨y, z⟩⟩
  refine ⟨(((cz c0, cz l0, cz o0, I n0), (cz c1, cz l1, cz o1, I n1), (cz (up (up (opn L 120 a g) a u) (a + 1) (L a - u)), cz (up (up (opn R 120 a g) a v) (a + 1) (R a - v)), I (g + 1))), hs, tx, nn, (I w0, I w1, I ph, I h)), _, _, ?_, ⟨rfl, rfl, k0, k1, (okM_ctf kM ⟨b0.2, b1.2⟩ q (by omega) (by omega) (by omega) (by omega)).val hc, e4, hw0, hw1, hph, hh⟩, e3, rfl, hc⟩
  have E : pX9_part (cz c0) (cz l0) (cz o0) (I n0) (cz c1) (cz l1) (cz o1) (I n1) (cz L) (cz R) (I g) a0 s0 s1 s2 s3 s4 (I a) (I u) (I v) = some (I (g + 1), cz (up (up (opn L 120 a g) a u) (a + 1) (L a - u)), cz (up (up (opn R 120 a g) a v) (a + 1) (R a - v)), I (g + 1), I (k5 k), r, t0, t1, t2, t3, t4) := by
    unfold pX9_part
    simp only [if_true, if_false, I_add, I_sub, I_mul, I_neg, I_ofNat, Option.bind_some, kIn, I_l0, I_l1, I_l2, I_l3, I_l4, I_l5, I_l6, I_l7, I_l8, I_l9, I_l10, I_l11, I_l12, I_l13, I_l40, I_l43, I_l44, I_l45, I_l48, I_l57, I_l58, I_l60, I_l61, I_l62, I_l79, I_l80, I_l100, I_l101, I_l120, I_l200, I_l201, I_l1999, I_l2000, I_l2001]
    rw [f1_hasT (by omega), f9_isWithin (by omega), f9_isWithin (by omega), if_pos qx, if_pos qy, f1_sizeIn (by omega), f1_sizeIn (by omega), sel_0 rfl, sel_1 (by omega), e1, f1_cut (by omega)]
    simp (disch := omega) only [if_true, if_false, I_add, I_sub, I_mul, I_neg, I_ofNat, Option.bind_some, kIn, I_l0, I_l1, I_l2, I_l3, I_l4, I_l5, I_l6, I_l7, I_l8, I_l9, I_l10, I_l11, I_l12, I_l13, I_l40, I_l43, I_l44, I_l45, I_l48, I_l57, I_l58, I_l60, I_l61, I_l62, I_l79, I_l80, I_l100, I_l101, I_l120, I_l200, I_l201, I_l1999, I_l2000, I_l2001, I_eq, I_lt, if_neg]
  exact obind E (obind e2 rfl)
theorem s_part4 {x : Sg} {c0 l0 o0 : Int → Int} {n0 : Int} {c1 l1 o1 : Int → Int} {n1 : Int} {L R : Int → Int} {g k w0 w1 ph h : Int} (d : dX x c0 l0 o0 n0 c1 l1 o1 n1 L R g k w0 w1 ph h) {a u v : Int} (q : 0 ≤ a ∧ a < g) (qx : 0 ≤ u ∧ u ≤ 60) (qy : 0 ≤ v ∧ v ≤ 60) (qb : L a - u < 0 ∨ R a - v < 0 ∨ u + v = 0 ∨ L a - u + (R a - v) = 0) : sPart x (I a) (I u) (I v) = some (I (-4), x) := by
  obtain ⟨⟨⟨v0, v1, v2, v3⟩, ⟨v4, v5, v6, v7⟩, v8, v9, v10⟩, ⟨a0, s0, s1, s2, s3, s4⟩, tx, nn, ⟨y0, y1, y2, y3⟩⟩ := x
  obtain ⟨e, ey, k0, k1, kM, hA, hw0, hw1, hph, hh⟩ := d
  simp only [Prod.mk.injEq] at e ey
  obtain ⟨⟨rfl, rfl, rfl, rfl⟩, ⟨rfl, rfl, rfl, rfl⟩, rfl, rfl, rfl⟩ := e
  obtain ⟨rfl, rfl, rfl, rfl⟩ := ey
  have hg := kM.1
  have b0 := k0.1
  have b1 := k1.1
  have hA0 := hA
  obtain ⟨hk0, hk, -⟩ := hA
  have hk1 : a0 = I k := hk0
  subst hk1
  have eN : nH (I k) 0 s0 s1 s2 s3 s4 = some (I k, s0, s1, s2, s3, s4) := rfl
  have ka := kM.2.1 a q.1 q.2
  have E : pX9_part (cz c0) (cz l0) (cz o0) (I n0) (cz c1) (cz l1) (cz o1) (I n1) (cz L) (cz R) (I g) (I k) s0 s1 s2 s3 s4 (I a) (I u) (I v) = some (I (-4), cz L, cz R, I g, I k, 0, s0, s1, s2, s3, s4) := by
    unfold pX9_part
    simp only [if_true, if_false, I_add, I_sub, I_mul, I_neg, I_ofNat, Option.bind_some, kIn, I_l0, I_l1, I_l2, I_l3, I_l4, I_l5, I_l6, I_l7, I_l8, I_l9, I_l10, I_l11, I_l12, I_l13, I_l40, I_l43, I_l44, I_l45, I_l48, I_l57, I_l58, I_l60, I_l61, I_l62, I_l79, I_l80, I_l100, I_l101, I_l120, I_l200, I_l201, I_l1999, I_l2000, I_l2001]
    rw [f1_hasT (by omega), f9_isWithin (by omega), f9_isWithin (by omega), if_pos qx, if_pos qy, f1_sizeIn (by omega), f1_sizeIn (by omega), sel_0 rfl, sel_1 (by omega)]
    simp (disch := omega) only [if_true, if_false, I_add, I_sub, I_mul, I_neg, I_ofNat, Option.bind_some, kIn, I_l0, I_l1, I_l2, I_l3, I_l4, I_l5, I_l6, I_l7, I_l8, I_l9, I_l10, I_l11, I_l12, I_l13, I_l40, I_l43, I_l44, I_l45, I_l48, I_l57, I_l58, I_l60, I_l61, I_l62, I_l79, I_l80, I_l100, I_l101, I_l120, I_l200, I_l201, I_l1999, I_l2000, I_l2001, I_eq, I_lt, if_neg]
    repeat' split
    all_goals first | rfl | (exfalso; omega)
  exact obind E (obind eN rfl)
theorem s_part2 {x : Sg} {c0 l0 o0 : Int → Int} {n0 : Int} {c1 l1 o1 : Int → Int} {n1 : Int} {L R : Int → Int} {g k w0 w1 ph h : Int} (d : dX x c0 l0 o0 n0 c1 l1 o1 n1 L R g k w0 w1 ph h) {a u v : Int} (q : 0 ≤ a ∧ a < g) (hr : (-2147483648 ≤ u ∧ u ≤ 2147483647) ∧ -2147483648 ≤ v ∧ v ≤ 2147483647) (qx : ¬ ((0 ≤ u ∧ u ≤ 60) ∧ 0 ≤ v ∧ v ≤ 60)) : sPart x (I a) (I u) (I v) = some (I (-2), x) := by
  obtain ⟨⟨⟨v0, v1, v2, v3⟩, ⟨v4, v5, v6, v7⟩, v8, v9, v10⟩, ⟨a0, s0, s1, s2, s3, s4⟩, tx, nn, ⟨y0, y1, y2, y3⟩⟩ := x
  obtain ⟨e, ey, k0, k1, kM, hA, hw0, hw1, hph, hh⟩ := d
  simp only [Prod.mk.injEq] at e ey
  obtain ⟨⟨rfl, rfl, rfl, rfl⟩, ⟨rfl, rfl, rfl, rfl⟩, rfl, rfl, rfl⟩ := e
  obtain ⟨rfl, rfl, rfl, rfl⟩ := ey
  have hg := kM.1
  have b0 := k0.1
  have b1 := k1.1
  have hA0 := hA
  obtain ⟨hk0, hk, -⟩ := hA
  have hk1 : a0 = I k := hk0
  subst hk1
  have eN : nH (I k) 0 s0 s1 s2 s3 s4 = some (I k, s0, s1, s2, s3, s4) := rfl
  have E : pX9_part (cz c0) (cz l0) (cz o0) (I n0) (cz c1) (cz l1) (cz o1) (I n1) (cz L) (cz R) (I g) (I k) s0 s1 s2 s3 s4 (I a) (I u) (I v) = some (I (-2), cz L, cz R, I g, I k, 0, s0, s1, s2, s3, s4) := by
    unfold pX9_part
    simp only [if_true, if_false, I_add, I_sub, I_mul, I_neg, I_ofNat, Option.bind_some, kIn, I_l0, I_l1, I_l2, I_l3, I_l4, I_l5, I_l6, I_l7, I_l8, I_l9, I_l10, I_l11, I_l12, I_l13, I_l40, I_l43, I_l44, I_l45, I_l48, I_l57, I_l58, I_l60, I_l61, I_l62, I_l79, I_l80, I_l100, I_l101, I_l120, I_l200, I_l201, I_l1999, I_l2000, I_l2001]
    by_cases qu : 0 ≤ u ∧ u ≤ 60
    · rw [f1_hasT (by omega), f9_isWithin (by omega), f9_isWithin (by omega), if_pos qu, if_neg (by omega)]
      simp (disch := omega) only [if_true, if_false, I_add, I_sub, I_mul, I_neg, I_ofNat, Option.bind_some, kIn, I_l0, I_l1, I_l2, I_l3, I_l4, I_l5, I_l6, I_l7, I_l8, I_l9, I_l10, I_l11, I_l12, I_l13, I_l40, I_l43, I_l44, I_l45, I_l48, I_l57, I_l58, I_l60, I_l61, I_l62, I_l79, I_l80, I_l100, I_l101, I_l120, I_l200, I_l201, I_l1999, I_l2000, I_l2001, I_eq, if_neg, if_true]
    · rw [f1_hasT (by omega), f9_isWithin (by omega), if_neg qu]
      simp (disch := omega) only [if_true, if_false, I_add, I_sub, I_mul, I_neg, I_ofNat, Option.bind_some, kIn, I_l0, I_l1, I_l2, I_l3, I_l4, I_l5, I_l6, I_l7, I_l8, I_l9, I_l10, I_l11, I_l12, I_l13, I_l40, I_l43, I_l44, I_l45, I_l48, I_l57, I_l58, I_l60, I_l61, I_l62, I_l79, I_l80, I_l100, I_l101, I_l120, I_l200, I_l201, I_l1999, I_l2000, I_l2001, I_eq, if_neg, if_true]
  exact obind E (obind eN rfl)
theorem s_part1 {x : Sg} {c0 l0 o0 : Int → Int} {n0 : Int} {c1 l1 o1 : Int → Int} {n1 : Int} {L R : Int → Int} {g k w0 w1 ph h : Int} (d : dX x c0 l0 o0 n0 c1 l1 o1 n1 L R g k w0 w1 ph h) {a : Int} {i2 i3 : Int32} (q : ¬ (0 ≤ a ∧ a < g)) (hr : -2147483648 ≤ a ∧ a ≤ 2147483647) : sPart x (I a) i2 i3 = some (I (-1), x) := by
  obtain ⟨⟨⟨v0, v1, v2, v3⟩, ⟨v4, v5, v6, v7⟩, v8, v9, v10⟩, ⟨a0, s0, s1, s2, s3, s4⟩, tx, nn, ⟨y0, y1, y2, y3⟩⟩ := x
  obtain ⟨e, ey, k0, k1, kM, hA, hw0, hw1, hph, hh⟩ := d
  simp only [Prod.mk.injEq] at e ey
  obtain ⟨⟨rfl, rfl, rfl, rfl⟩, ⟨rfl, rfl, rfl, rfl⟩, rfl, rfl, rfl⟩ := e
  obtain ⟨rfl, rfl, rfl, rfl⟩ := ey
  have hg := kM.1
  have b0 := k0.1
  have b1 := k1.1
  have hA0 := hA
  obtain ⟨hk0, hk, -⟩ := hA
  have hk1 : a0 = I k := hk0
  subst hk1
  have eN : nH (I k) 0 s0 s1 s2 s3 s4 = some (I k, s0, s1, s2, s3, s4) := rfl
  have E : pX9_part (cz c0) (cz l0) (cz o0) (I n0) (cz c1) (cz l1) (cz o1) (I n1) (cz L) (cz R) (I g) (I k) s0 s1 s2 s3 s4 (I a) i2 i3 = some (I (-1), cz L, cz R, I g, I k, 0, s0, s1, s2, s3, s4) := by
    unfold pX9_part
    simp only [if_true, if_false, I_add, I_sub, I_mul, I_neg, I_ofNat, Option.bind_some, kIn, I_l0, I_l1, I_l2, I_l3, I_l4, I_l5, I_l6, I_l7, I_l8, I_l9, I_l10, I_l11, I_l12, I_l13, I_l40, I_l43, I_l44, I_l45, I_l48, I_l57, I_l58, I_l60, I_l61, I_l62, I_l79, I_l80, I_l100, I_l101, I_l120, I_l200, I_l201, I_l1999, I_l2000, I_l2001]
    rw [f1_hasF (by omega)]
    simp (disch := omega) only [if_true, if_false, I_add, I_sub, I_mul, I_neg, I_ofNat, Option.bind_some, kIn, I_l0, I_l1, I_l2, I_l3, I_l4, I_l5, I_l6, I_l7, I_l8, I_l9, I_l10, I_l11, I_l12, I_l13, I_l40, I_l43, I_l44, I_l45, I_l48, I_l57, I_l58, I_l60, I_l61, I_l62, I_l79, I_l80, I_l100, I_l101, I_l120, I_l200, I_l201, I_l1999, I_l2000, I_l2001, I_eq, if_pos]
  exact obind E (obind eN rfl)
theorem s_pairAll {x : Sg} {c0 l0 o0 : Int → Int} {n0 : Int} {c1 l1 o1 : Int → Int} {n1 : Int} {L R : Int → Int} {g k w0 w1 ph h : Int} (d : dX x c0 l0 o0 n0 c1 l1 o1 n1 L R g k w0 w1 ph h)  : ∃ (x' : Sg) (L2 R2 : Int → Int), sPairAll x = some (I (mx n0 n1), x') ∧ dX x' c0 l0 o0 n0 c1 l1 o1 n1 L2 R2 (mx n0 n1) (k5 k) w0 w1 ph h ∧ hTp x'.2.1 (k5 k) x.1 ∧ x'.2.2 = x.2.2 ∧ ∀ i, 0 ≤ i → i < mx n0 n1 → L2 i = p01 n0 i ∧ R2 i = p01 n1 i := by
  obtain ⟨⟨⟨v0, v1, v2, v3⟩, ⟨v4, v5, v6, v7⟩, v8, v9, v10⟩, ⟨a0, s0, s1, s2, s3, s4⟩, tx, nn, ⟨y0, y1, y2, y3⟩⟩ := x
  obtain ⟨e, ey, k0, k1, kM, hA, hw0, hw1, hph, hh⟩ := d
  simp only [Prod.mk.injEq] at e ey
  obtain ⟨⟨rfl, rfl, rfl, rfl⟩, ⟨rfl, rfl, rfl, rfl⟩, rfl, rfl, rfl⟩ := e
  obtain ⟨rfl, rfl, rfl, rfl⟩ := ey
  have hg := kM.1
  have b0 := k0.1
  have b1 := k1.1
  obtain ⟨r, t0, t1, t2, t3, t4, hs, e1, e2, e3, e4⟩ := t_record (vL0 := cz c0) (vL1 := cz l0) (vL2 := cz o0) (vL3 := I n0) (vR0 := cz c1) (vR1 := cz l1) (vR2 := cz o1) (vR3 := I n1) (vM0 := cz L) (vM1 := cz R) (vM2 := I g) hA ⟨c0, l0, o0, n0, c1, l1, o1, n1, L, R, g, rfl, k0, k1, kM⟩
  obtain ⟨A2, B2, u1, u2⟩ := f9_pairAll b0 b1 e1
  exact ⟨(((cz c0, cz l0, cz o0, I n0), (cz c1, cz l1, cz o1, I n1), (cz A2, cz B2, I (mx n0 n1))), hs, tx, nn, (I w0, I w1, I ph, I h)), A2, B2, obind u2 (obind e2 rfl), ⟨rfl, rfl, k0, k1, (okM_p01 b0 b1).val u1, e4, hw0, hw1, hph, hh⟩, e3, rfl, u1⟩
theorem s_exchange {x : Sg} {c0 l0 o0 : Int → Int} {n0 : Int} {c1 l1 o1 : Int → Int} {n1 : Int} {L R : Int → Int} {g k w0 w1 ph h : Int} (d : dX x c0 l0 o0 n0 c1 l1 o1 n1 L R g k w0 w1 ph h)  : ∃ x' : Sg, sExchange x = some (I (alk R L g), x') ∧ dX x' c1 l1 o1 n1 c0 l0 o0 n0 R L g (k5 k) w0 w1 ph h ∧ hTp x'.2.1 (k5 k) x.1 ∧ x'.2.2 = x.2.2 := by
  obtain ⟨⟨⟨v0, v1, v2, v3⟩, ⟨v4, v5, v6, v7⟩, v8, v9, v10⟩, ⟨a0, s0, s1, s2, s3, s4⟩, tx, nn, ⟨y0, y1, y2, y3⟩⟩ := x
  obtain ⟨e, ey, k0, k1, kM, hA, hw0, hw1, hph, hh⟩ := d
  simp only [Prod.mk.injEq] at e ey
  obtain ⟨⟨rfl, rfl, rfl, rfl⟩, ⟨rfl, rfl, rfl, rfl⟩, rfl, rfl, rfl⟩ := e
  obtain ⟨rfl, rfl, rfl, rfl⟩ := ey
  have hg := kM.1
  have b0 := k0.1
  have b1 := k1.1
  obtain ⟨r, t0, t1, t2, t3, t4, hs, e1, e2, e3, e4⟩ := t_record (vL0 := cz c0) (vL1 := cz l0) (vL2 := cz o0) (vL3 := I n0) (vR0 := cz c1) (vR1 := cz l1) (vR2 := cz o1) (vR3 := I n1) (vM0 := cz L) (vM1 := cz R) (vM2 := I g) hA ⟨c0, l0, o0, n0, c1, l1, o1, n1, L, R, g, rfl, k0, k1, kM⟩
  have hb : ∀ i, 0 ≤ i → i < g → (0 ≤ L i ∧ L i ≤ 1000) ∧ 0 ≤ R i ∧ R i ≤ 1000 := fun i x y => by have := kM.2.1 i x y; omega
  have E : pX9_exchange (cz c0) (cz l0) (cz o0) (I n0) (cz c1) (cz l1) (cz o1) (I n1) (cz L) (cz R) (I g) a0 s0 s1 s2 s3 s4 = some (I (alk R L g), I (k5 k), r, t0, t1, t2, t3, t4) := by
    unfold pX9_exchange
    rw [e1, f1_alikeTotal hg (fun i x y => (hb i x y).2) (fun i x y => (hb i x y).1)]
    simp only [Option.bind_some]
  exact ⟨(((cz c1, cz l1, cz o1, I n1), (cz c0, cz l0, cz o0, I n0), (cz R, cz L, I g)), hs, tx, nn, (I w0, I w1, I ph, I h)), obind E (obind e2 rfl), ⟨rfl, rfl, k1, k0, ⟨hg, fun i x y => by have := kM.2.1 i x y; omega, kM.2.2.2, kM.2.2.1⟩, e4, hw0, hw1, hph, hh⟩, e3, rfl⟩
theorem s_undo0 {x : Sg} {c0 l0 o0 : Int → Int} {n0 : Int} {c1 l1 o1 : Int → Int} {n1 : Int} {L R : Int → Int} {g k w0 w1 ph h : Int} (d : dX x c0 l0 o0 n0 c1 l1 o1 n1 L R g k w0 w1 ph h) (hz : k = 0) : sUndo x = some (I (-5), x) := by
  obtain ⟨⟨⟨v0, v1, v2, v3⟩, ⟨v4, v5, v6, v7⟩, v8, v9, v10⟩, ⟨a0, s0, s1, s2, s3, s4⟩, tx, nn, ⟨y0, y1, y2, y3⟩⟩ := x
  obtain ⟨e, ey, k0, k1, kM, hA, hw0, hw1, hph, hh⟩ := d
  simp only [Prod.mk.injEq] at e ey
  obtain ⟨⟨rfl, rfl, rfl, rfl⟩, ⟨rfl, rfl, rfl, rfl⟩, rfl, rfl, rfl⟩ := e
  obtain ⟨rfl, rfl, rfl, rfl⟩ := ey
  have hg := kM.1
  have b0 := k0.1
  have b1 := k1.1
  have hA0 := hA
  obtain ⟨hk0, hk, -⟩ := hA
  have hk1 : a0 = I k := hk0
  subst hk1
  have eN : nH (I k) 0 s0 s1 s2 s3 s4 = some (I k, s0, s1, s2, s3, s4) := rfl
  subst hz
  rfl
theorem s_undo {x : Sg} {c0 l0 o0 : Int → Int} {n0 : Int} {c1 l1 o1 : Int → Int} {n1 : Int} {L R : Int → Int} {g k w0 w1 ph h : Int} (d : dX x c0 l0 o0 n0 c1 l1 o1 n1 L R g k w0 w1 ph h) {st : vST} (ht : hTp x.2.1 k st) : sUndo x = some (I (k - 1), (st, (I (k - 1), x.2.1.2), x.2.2)) ∧ hAll (I (k - 1), x.2.1.2) (k - 1) ∧ vOk st := by
  obtain ⟨⟨⟨v0, v1, v2, v3⟩, ⟨v4, v5, v6, v7⟩, v8, v9, v10⟩, ⟨a0, s0, s1, s2, s3, s4⟩, tx, nn, ⟨y0, y1, y2, y3⟩⟩ := x
  obtain ⟨e, ey, k0, k1, kM, hA, hw0, hw1, hph, hh⟩ := d
  simp only [Prod.mk.injEq] at e ey
  obtain ⟨⟨rfl, rfl, rfl, rfl⟩, ⟨rfl, rfl, rfl, rfl⟩, rfl, rfl, rfl⟩ := e
  obtain ⟨rfl, rfl, rfl, rfl⟩ := ey
  have hg := kM.1
  have b0 := k0.1
  have b1 := k1.1
  obtain ⟨hk0, hk, h0, h1, h2, h3, h4⟩ := hA
  obtain ⟨-, ht⟩ := ht
  have hk1 : a0 = I k := hk0
  subst hk1
  rcases ht with ⟨rfl, rfl⟩ | ⟨rfl, rfl⟩ | ⟨rfl, rfl⟩ | ⟨rfl, rfl⟩ | ⟨rfl, rfl⟩
  · exact ⟨rfl, ⟨rfl, by decide, fun z => absurd z (by decide), fun z => absurd z (by decide), fun z => absurd z (by decide), fun z => absurd z (by decide), fun z => absurd z (by decide)⟩, h0 (by decide)⟩
  · exact ⟨rfl, ⟨rfl, by decide, fun _ => h0 (by decide), fun z => absurd z (by decide), fun z => absurd z (by decide), fun z => absurd z (by decide), fun z => absurd z (by decide)⟩, h1 (by decide)⟩
  · exact ⟨rfl, ⟨rfl, by decide, fun _ => h0 (by decide), fun _ => h1 (by decide), fun z => absurd z (by decide), fun z => absurd z (by decide), fun z => absurd z (by decide)⟩, h2 (by decide)⟩
  · exact ⟨rfl, ⟨rfl, by decide, fun _ => h0 (by decide), fun _ => h1 (by decide), fun _ => h2 (by decide), fun z => absurd z (by decide), fun z => absurd z (by decide)⟩, h3 (by decide)⟩
  · exact ⟨rfl, ⟨rfl, by decide, fun _ => h0 (by decide), fun _ => h1 (by decide), fun _ => h2 (by decide), fun _ => h3 (by decide), fun z => absurd z (by decide)⟩, h4 (by decide)⟩
theorem hTp_ex {h : vHs} {k : Int} (hA : hAll h k) (hk : ¬ k = 0) : ∃ st, hTp h k st := by
  have c : k = 1 ∨ k = 2 ∨ k = 3 ∨ k = 4 ∨ k = 5 := by have := hA.2.1; omega
  rcases c with rfl | rfl | rfl | rfl | rfl
  · exact ⟨_, hA.1, Or.inl ⟨rfl, rfl⟩⟩
  · exact ⟨_, hA.1, Or.inr (Or.inl ⟨rfl, rfl⟩)⟩
  · exact ⟨_, hA.1, Or.inr (Or.inr (Or.inl ⟨rfl, rfl⟩))⟩
  · exact ⟨_, hA.1, Or.inr (Or.inr (Or.inr (Or.inl ⟨rfl, rfl⟩)))⟩
  · exact ⟨_, hA.1, Or.inr (Or.inr (Or.inr (Or.inr ⟨rfl, rfl⟩)))⟩
theorem s_setVerse0 {x : Sg} {c0 l0 o0 : Int → Int} {n0 : Int} {c1 l1 o1 : Int → Int} {n1 : Int} {L R : Int → Int} {g k w0 w1 ph h : Int} (d : dX x c0 l0 o0 n0 c1 l1 o1 n1 L R g k w0 w1 ph h) {v u y : Int} (q : 0 ≤ v ∧ v < n0) (qx : 1 ≤ u ∧ u ≤ 2000) (qy : 0 ≤ y ∧ y ≤ 10) : ∃ x' : Sg, sSetVerse x (I 0) (I v) (I u) (I y) = some (I (l0 v), x') ∧ dX x' c0 (up l0 v u) (up o0 v y) n0 c1 l1 o1 n1 L R g (k5 k) w0 w1 ph h ∧ hTp x'.2.1 (k5 k) x.1 ∧ x'.2.2 = x.2.2 := by
  obtain ⟨⟨⟨v0, v1, v2, v3⟩, ⟨v4, v5, v6, v7⟩, v8, v9, v10⟩, ⟨a0, s0, s1, s2, s3, s4⟩, tx, nn, ⟨y0, y1, y2, y3⟩⟩ := x
  obtain ⟨e, ey, k0, k1, kM, hA, hw0, hw1, hph, hh⟩ := d
  simp only [Prod.mk.injEq] at e ey
  obtain ⟨⟨rfl, rfl, rfl, rfl⟩, ⟨rfl, rfl, rfl, rfl⟩, rfl, rfl, rfl⟩ := e
  obtain ⟨rfl, rfl, rfl, rfl⟩ := ey
  have hg := kM.1
  have b0 := k0.1
  have b1 := k1.1
  obtain ⟨r, t0, t1, t2, t3, t4, hs, e1, e2, e3, e4⟩ := t_record (vL0 := cz c0) (vL1 := cz l0) (vL2 := cz o0) (vL3 := I n0) (vR0 := cz c1) (vR1 := cz l1) (vR2 := cz o1) (vR3 := I n1) (vM0 := cz L) (vM1 := cz R) (vM2 := I g) hA ⟨c0, l0, o0, n0, c1, l1, o1, n1, L, R, g, rfl, k0, k1, kM⟩
  have hY := f9_isVerseY ⟨b0, b1⟩ (Or.inl ⟨rfl, q⟩)
  have E : pX9_setVerse (cz c0) (cz l0) (cz o0) (I n0) (cz c1) (cz l1) (cz o1) (I n1) (cz L) (cz R) (I g) a0 s0 s1 s2 s3 s4 (I 0) (I v) (I u) (I y) = some (I (l0 v), cz (up l0 v u), cz (up o0 v y), cz l1, cz o1, I (k5 k), r, t0, t1, t2, t3, t4) := by
    unfold pX9_setVerse
    simp only [if_true, if_false, I_add, I_sub, I_mul, I_neg, I_ofNat, Option.bind_some, kIn, I_l0, I_l1, I_l2, I_l3, I_l4, I_l5, I_l6, I_l7, I_l8, I_l9, I_l10, I_l11, I_l12, I_l13, I_l40, I_l43, I_l44, I_l45, I_l48, I_l57, I_l58, I_l60, I_l61, I_l62, I_l79, I_l80, I_l100, I_l101, I_l120, I_l200, I_l201, I_l1999, I_l2000, I_l2001]
    rw [hY, f9_isWithin (by omega), f9_isWithin (by omega), if_pos qx, if_pos qy, e1, f0_lettersOf (n := n0) (by omega), at0_in q, f0_put (n := n0) (by omega)]
    simp (disch := omega) only [if_true, if_false, I_add, I_sub, I_mul, I_neg, I_ofNat, Option.bind_some, kIn, I_l0, I_l1, I_l2, I_l3, I_l4, I_l5, I_l6, I_l7, I_l8, I_l9, I_l10, I_l11, I_l12, I_l13, I_l40, I_l43, I_l44, I_l45, I_l48, I_l57, I_l58, I_l60, I_l61, I_l62, I_l79, I_l80, I_l100, I_l101, I_l120, I_l200, I_l201, I_l1999, I_l2000, I_l2001, I_eq, if_pos, if_neg]
  exact ⟨(((cz c0, cz (up l0 v u), cz (up o0 v y), I n0), (cz c1, cz l1, cz o1, I n1), (cz L, cz R, I g)), hs, tx, nn, (I w0, I w1, I ph, I h)), obind E (obind e2 rfl), ⟨rfl, rfl, okB_set qx qy k0, k1, kM, e4, hw0, hw1, hph, hh⟩, e3, rfl⟩
theorem s_setVerse1 {x : Sg} {c0 l0 o0 : Int → Int} {n0 : Int} {c1 l1 o1 : Int → Int} {n1 : Int} {L R : Int → Int} {g k w0 w1 ph h : Int} (d : dX x c0 l0 o0 n0 c1 l1 o1 n1 L R g k w0 w1 ph h) {v u y : Int} (q : 0 ≤ v ∧ v < n1) (qx : 1 ≤ u ∧ u ≤ 2000) (qy : 0 ≤ y ∧ y ≤ 10) : ∃ x' : Sg, sSetVerse x (I 1) (I v) (I u) (I y) = some (I (l1 v), x') ∧ dX x' c0 l0 o0 n0 c1 (up l1 v u) (up o1 v y) n1 L R g (k5 k) w0 w1 ph h ∧ hTp x'.2.1 (k5 k) x.1 ∧ x'.2.2 = x.2.2 := by
  obtain ⟨⟨⟨v0, v1, v2, v3⟩, ⟨v4, v5, v6, v7⟩, v8, v9, v10⟩, ⟨a0, s0, s1, s2, s3, s4⟩, tx, nn, ⟨y0, y1, y2, y3⟩⟩ := x
  obtain ⟨e, ey, k0, k1, kM, hA, hw0, hw1, hph, hh⟩ := d
  simp only [Prod.mk.injEq] at e ey
  obtain ⟨⟨rfl, rfl, rfl, rfl⟩, ⟨rfl, rfl, rfl, rfl⟩, rfl, rfl, rfl⟩ := e
  obtain ⟨rfl, rfl, rfl, rfl⟩ := ey
  have hg := kM.1
  have b0 := k0.1
  have b1 := k1.1
  obtain ⟨r, t0, t1, t2, t3, t4, hs, e1, e2, e3, e4⟩ := t_record (vL0 := cz c0) (vL1 := cz l0) (vL2 := cz o0) (vL3 := I n0) (vR0 := cz c1) (vR1 := cz l1) (vR2 := cz o1) (vR3 := I n1) (vM0 := cz L) (vM1 := cz R) (vM2 := I g) hA ⟨c0, l0, o0, n0, c1, l1, o1, n1, L, R, g, rfl, k0, k1, kM⟩
  have hY := f9_isVerseY ⟨b0, b1⟩ (Or.inr ⟨rfl, q⟩)
  have E : pX9_setVerse (cz c0) (cz l0) (cz o0) (I n0) (cz c1) (cz l1) (cz o1) (I n1) (cz L) (cz R) (I g) a0 s0 s1 s2 s3 s4 (I 1) (I v) (I u) (I y) = some (I (l1 v), cz l0, cz o0, cz (up l1 v u), cz (up o1 v y), I (k5 k), r, t0, t1, t2, t3, t4) := by
    unfold pX9_setVerse
    simp only [if_true, if_false, I_add, I_sub, I_mul, I_neg, I_ofNat, Option.bind_some, kIn, I_l0, I_l1, I_l2, I_l3, I_l4, I_l5, I_l6, I_l7, I_l8, I_l9, I_l10, I_l11, I_l12, I_l13, I_l40, I_l43, I_l44, I_l45, I_l48, I_l57, I_l58, I_l60, I_l61, I_l62, I_l79, I_l80, I_l100, I_l101, I_l120, I_l200, I_l201, I_l1999, I_l2000, I_l2001]
    rw [hY, f9_isWithin (by omega), f9_isWithin (by omega), if_pos qx, if_pos qy, e1, f0_lettersOf (n := n1) (by omega), at0_in q, f0_put (n := n1) (by omega)]
    simp (disch := omega) only [if_true, if_false, I_add, I_sub, I_mul, I_neg, I_ofNat, Option.bind_some, kIn, I_l0, I_l1, I_l2, I_l3, I_l4, I_l5, I_l6, I_l7, I_l8, I_l9, I_l10, I_l11, I_l12, I_l13, I_l40, I_l43, I_l44, I_l45, I_l48, I_l57, I_l58, I_l60, I_l61, I_l62, I_l79, I_l80, I_l100, I_l101, I_l120, I_l200, I_l201, I_l1999, I_l2000, I_l2001, I_eq, if_pos, if_neg]
  exact ⟨(((cz c0, cz l0, cz o0, I n0), (cz c1, cz (up l1 v u), cz (up o1 v y), I n1), (cz L, cz R, I g)), hs, tx, nn, (I w0, I w1, I ph, I h)), obind E (obind e2 rfl), ⟨rfl, rfl, k0, okB_set qx qy k1, kM, e4, hw0, hw1, hph, hh⟩, e3, rfl⟩
theorem sE_setVerse2 {x : Sg} {c0 l0 o0 : Int → Int} {n0 : Int} {c1 l1 o1 : Int → Int} {n1 : Int} {L R : Int → Int} {g k w0 w1 ph h : Int} (d : dX x c0 l0 o0 n0 c1 l1 o1 n1 L R g k w0 w1 ph h) {b v u y : Int} (q : (b = 0 ∧ 0 ≤ v ∧ v < n0) ∨ (b = 1 ∧ 0 ≤ v ∧ v < n1)) (hr : (-2147483648 ≤ u ∧ u ≤ 2147483647) ∧ -2147483648 ≤ y ∧ y ≤ 2147483647) (qx : ¬ ((1 ≤ u ∧ u ≤ 2000) ∧ 0 ≤ y ∧ y ≤ 10)) : sSetVerse x (I b) (I v) (I u) (I y) = some (I (-2), x) := by
  obtain ⟨⟨⟨v0, v1, v2, v3⟩, ⟨v4, v5, v6, v7⟩, v8, v9, v10⟩, ⟨a0, s0, s1, s2, s3, s4⟩, tx, nn, ⟨y0, y1, y2, y3⟩⟩ := x
  obtain ⟨e, ey, k0, k1, kM, hA, hw0, hw1, hph, hh⟩ := d
  simp only [Prod.mk.injEq] at e ey
  obtain ⟨⟨rfl, rfl, rfl, rfl⟩, ⟨rfl, rfl, rfl, rfl⟩, rfl, rfl, rfl⟩ := e
  obtain ⟨rfl, rfl, rfl, rfl⟩ := ey
  have hg := kM.1
  have b0 := k0.1
  have b1 := k1.1
  have hA0 := hA
  obtain ⟨hk0, hk, -⟩ := hA
  have hk1 : a0 = I k := hk0
  subst hk1
  have eN : nH (I k) 0 s0 s1 s2 s3 s4 = some (I k, s0, s1, s2, s3, s4) := rfl
  have hY := f9_isVerseY ⟨b0, b1⟩ q
  have E : pX9_setVerse (cz c0) (cz l0) (cz o0) (I n0) (cz c1) (cz l1) (cz o1) (I n1) (cz L) (cz R) (I g) (I k) s0 s1 s2 s3 s4 (I b) (I v) (I u) (I y) = some (I (-2), cz l0, cz o0, cz l1, cz o1, I k, 0, s0, s1, s2, s3, s4) := by
    unfold pX9_setVerse
    simp only [if_true, if_false, I_add, I_sub, I_mul, I_neg, I_ofNat, Option.bind_some, kIn, I_l0, I_l1, I_l2, I_l3, I_l4, I_l5, I_l6, I_l7, I_l8, I_l9, I_l10, I_l11, I_l12, I_l13, I_l40, I_l43, I_l44, I_l45, I_l48, I_l57, I_l58, I_l60, I_l61, I_l62, I_l79, I_l80, I_l100, I_l101, I_l120, I_l200, I_l201, I_l1999, I_l2000, I_l2001]
    by_cases qu : 1 ≤ u ∧ u ≤ 2000
    · rw [hY, f9_isWithin (by omega), f9_isWithin (by omega), if_pos qu, if_neg (by omega)]
      simp (disch := omega) only [if_true, if_false, I_add, I_sub, I_mul, I_neg, I_ofNat, Option.bind_some, kIn, I_l0, I_l1, I_l2, I_l3, I_l4, I_l5, I_l6, I_l7, I_l8, I_l9, I_l10, I_l11, I_l12, I_l13, I_l40, I_l43, I_l44, I_l45, I_l48, I_l57, I_l58, I_l60, I_l61, I_l62, I_l79, I_l80, I_l100, I_l101, I_l120, I_l200, I_l201, I_l1999, I_l2000, I_l2001, I_eq, if_pos, if_neg]
    · rw [hY, f9_isWithin (by omega), if_neg qu]
      simp (disch := omega) only [if_true, if_false, I_add, I_sub, I_mul, I_neg, I_ofNat, Option.bind_some, kIn, I_l0, I_l1, I_l2, I_l3, I_l4, I_l5, I_l6, I_l7, I_l8, I_l9, I_l10, I_l11, I_l12, I_l13, I_l40, I_l43, I_l44, I_l45, I_l48, I_l57, I_l58, I_l60, I_l61, I_l62, I_l79, I_l80, I_l100, I_l101, I_l120, I_l200, I_l201, I_l1999, I_l2000, I_l2001, I_eq, if_pos, if_neg]
  exact obind E (obind eN rfl)
theorem sE_setVerse1 {x : Sg} {c0 l0 o0 : Int → Int} {n0 : Int} {c1 l1 o1 : Int → Int} {n1 : Int} {L R : Int → Int} {g k w0 w1 ph h : Int} (d : dX x c0 l0 o0 n0 c1 l1 o1 n1 L R g k w0 w1 ph h) {b v : Int} {i3 i4 : Int32} (q : ¬ ((b = 0 ∧ 0 ≤ v ∧ v < n0) ∨ (b = 1 ∧ 0 ≤ v ∧ v < n1))) (hr : (-2147483648 ≤ b ∧ b ≤ 2147483647) ∧ -2147483648 ≤ v ∧ v ≤ 2147483647) : sSetVerse x (I b) (I v) i3 i4 = some (I (-1), x) := by
  obtain ⟨⟨⟨v0, v1, v2, v3⟩, ⟨v4, v5, v6, v7⟩, v8, v9, v10⟩, ⟨a0, s0, s1, s2, s3, s4⟩, tx, nn, ⟨y0, y1, y2, y3⟩⟩ := x
  obtain ⟨e, ey, k0, k1, kM, hA, hw0, hw1, hph, hh⟩ := d
  simp only [Prod.mk.injEq] at e ey
  obtain ⟨⟨rfl, rfl, rfl, rfl⟩, ⟨rfl, rfl, rfl, rfl⟩, rfl, rfl, rfl⟩ := e
  obtain ⟨rfl, rfl, rfl, rfl⟩ := ey
  have hg := kM.1
  have b0 := k0.1
  have b1 := k1.1
  have hA0 := hA
  obtain ⟨hk0, hk, -⟩ := hA
  have hk1 : a0 = I k := hk0
  subst hk1
  have eN : nH (I k) 0 s0 s1 s2 s3 s4 = some (I k, s0, s1, s2, s3, s4) := rfl
  have E : pX9_setVerse (cz c0) (cz l0) (cz o0) (I n0) (cz c1) (cz l1) (cz o1) (I n1) (cz L) (cz R) (I g) (I k) s0 s1 s2 s3 s4 (I b) (I v) i3 i4 = some (I (-1), cz l0, cz o0, cz l1, cz o1, I k, 0, s0, s1, s2, s3, s4) := by
    unfold pX9_setVerse
    simp only [if_true, if_false, I_add, I_sub, I_mul, I_neg, I_ofNat, Option.bind_some, kIn, I_l0, I_l1, I_l2, I_l3, I_l4, I_l5, I_l6, I_l7, I_l8, I_l9, I_l10, I_l11, I_l12, I_l13, I_l40, I_l43, I_l44, I_l45, I_l48, I_l57, I_l58, I_l60, I_l61, I_l62, I_l79, I_l80, I_l100, I_l101, I_l120, I_l200, I_l201, I_l1999, I_l2000, I_l2001]
    rw [f9_isVerseN (by omega) q]
    simp (disch := omega) only [if_true, if_false, I_add, I_sub, I_mul, I_neg, I_ofNat, Option.bind_some, kIn, I_l0, I_l1, I_l2, I_l3, I_l4, I_l5, I_l6, I_l7, I_l8, I_l9, I_l10, I_l11, I_l12, I_l13, I_l40, I_l43, I_l44, I_l45, I_l48, I_l57, I_l58, I_l60, I_l61, I_l62, I_l79, I_l80, I_l100, I_l101, I_l120, I_l200, I_l201, I_l1999, I_l2000, I_l2001, I_eq, if_pos]
  exact obind E (obind eN rfl)
