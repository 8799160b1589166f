-- counts asked: both sides alike
section ASK5
variable {W : Int → Int} {vL0 vL1 vL2 : Nat → Int32} {vL3 : Int32} {vR0 vR1 vR2 : Nat → Int32} {vR3 : Int32} {vM0 vM1 : Nat → Int32} {vM2 : Int32} {y0 y1 y2 y3 d6 d7 : Int32} {w : Int → Int} {ph h : Int}
theorem e_count (kk : Int32) (hS : rS ((vL0, vL1, vL2, vL3), (vR0, vR1, vR2, vR3), (vM0, vM1, vM2)) W) (hW : rW y0 y1 w) (hZ : rZ y2 y3 d6 d7 ph h) (x4 x5 x6 x7 : Nat → Int32) (x8 x9 x10 d18 : Int32) (d19 d20 d21 d22 : Nat → Int32) (i1 : Int32) : ∃ (a : Int32) (z4 z5 z6 z7 : Nat → Int32) (z8 z9 z10 e18 : Int32) (e19 e20 e21 e22 : Nat → Int32), pX9_count vL0 vL1 vL2 vL3 vR0 vR1 vR2 vR3 vM0 vM1 vM2 kk y0 y1 y2 y3 x4 x5 x6 x7 x8 x9 x10 i1 = some (a, z4, z5, z6, z7, z8, z9, z10) ∧ pX10_count (cz W) kk (cz w) d6 d7 d18 d19 d20 d21 d22 i1 = some (a, e18, e19, e20, e21, e22) := by
  obtain ⟨y, hy, rfl⟩ := I_of i1
  obtain ⟨c0, l0, o0, n0, c1, l1, o1, n1, L, R, g, e, k0, k1, kM, r0, r1, rm⟩ := id hS
  simp only [Prod.mk.injEq] at e
  obtain ⟨⟨rfl, rfl, rfl, rfl⟩, ⟨rfl, rfl, rfl, rfl⟩, rfl, rfl, rfl⟩ := e
  have hd := hW.bd
  obtain ⟨rfl, rfl, w0, w1⟩ := id hW
  obtain ⟨rfl, rfl, rfl, rfl, hph, hh⟩ := hZ
  obtain ⟨f4, rfl, -⟩ := cz_of x4
  obtain ⟨f5, rfl, -⟩ := cz_of x5
  obtain ⟨f6, rfl, -⟩ := cz_of x6
  obtain ⟨f7, rfl, -⟩ := cz_of x7
  obtain ⟨f9, -, rfl⟩ := I_of x9
  obtain ⟨a19, rfl, -⟩ := cz_of d19
  obtain ⟨a20, rfl, -⟩ := cz_of d20
  obtain ⟨a21, rfl, -⟩ := cz_of d21
  obtain ⟨a22, rfl, -⟩ := cz_of d22
  have hg := kM.1
  have b0 := k0.1
  have b1 := k1.1
  have w360 : W 360 = n0 := r0.1
  have w361 : W 361 = n1 := r1.1
  have w362 : W 362 = at0 c0 n0 (n0 - 1) := r0.2.1
  have w363 : W 363 = at0 c1 n1 (n1 - 1) := r1.2.1
  have hLb : ∀ i, 0 ≤ i → i < g → 0 ≤ L i ∧ L i ≤ 1000 := fun i s t => by have := (kM.2.1 i s t).1; omega
  have hRb : ∀ i, 0 ≤ i → i < g → 0 ≤ R i ∧ R i ≤ 1000 := fun i s t => by have := (kM.2.1 i s t).2.1; omega
  unfold pX9_count pX10_count
  simp only [if_true, if_false, I_add, I_sub, I_mul, I_neg, I_ofNat, Option.bind_some, kIn, I_l0, I_l1, I_l2, I_l3, I_l4, I_l5, I_l6, I_l8, I_l9, I_l10, I_l11, I_l32, I_l40, I_l43, I_l44, I_l45, I_l48, I_l49, I_l57, I_l58, I_l60, I_l61, I_l62, I_l79, I_l80, I_l100, I_l120, I_l180, I_l200, I_l240, I_l300, I_l360, I_l361, I_l362, I_l363, I_l364, I_l365, I_l485, I_l605, I_l1999, I_l2000]
  by_cases q2 : 0 ≤ y ∧ y ≤ 11
  · have e1 : pX9_isWithin (I y) (I 0) (I 11) = some (I 1) := by rw [f9_isWithin (by omega), if_pos q2]
    have e2 : pX10_in (I y) (I 0) (I 11) = some (I 1) := by rw [f10_in (by omega), if_pos q2]
    obtain ⟨hc, nc, pn, ls, v1, v2⟩ := f3_arrange (hc := f4) (nc := f5) (pn := f6) (ls := f7) (c9 := f9) k0 k1 kM hd.2.1 hd.2.2 hh (ph := ph) (by omega)
    obtain ⟨b19, b20, b21, b22, v3, v4, v5⟩ := f10_layPages (a19 := a19) (a20 := a20) (a21 := a21) (a22 := a22) k0 k1 kM r0 r1 rm hd.1 hd.2 hh (ph := ph) (by omega) _ _ rfl rfl
    have hyy : y = 0 ∨ y = 1 ∨ y = 2 ∨ y = 3 ∨ y = 4 ∨ y = 5 ∨ y = 6 ∨ y = 7 ∨ y = 8 ∨ y = 9 ∨ y = 10 ∨ y = 11 := by omega
    rcases hyy with rfl | rfl | rfl | rfl | rfl | rfl | rfl | rfl | rfl | rfl | rfl | rfl
    · refine ⟨I (at0 c0 n0 (n0 - 1)), cz f4, cz f5, cz f6, cz f7, x8, I f9, x10, I (pgC (hgt c0 l0 c1 l1 L R (wdt w 0) (wdt w 1) h) (nts o0 o1 L R) ph g), cz b19, cz b20, cz b21, cz b22, obind e1 ((if_neg (by decide)).trans ?_), obind e2 ((if_neg (by decide)).trans (obind v5 ?_))⟩
      · simp (disch := omega) only [if_true, if_false, I_add, I_sub, I_mul, I_neg, I_ofNat, Option.bind_some, kIn, I_l0, I_l1, I_l2, I_l3, I_l4, I_l5, I_l6, I_l8, I_l9, I_l10, I_l11, I_l32, I_l40, I_l43, I_l44, I_l45, I_l48, I_l49, I_l57, I_l58, I_l60, I_l61, I_l62, I_l79, I_l80, I_l100, I_l120, I_l180, I_l200, I_l240, I_l300, I_l360, I_l361, I_l362, I_l363, I_l364, I_l365, I_l485, I_l605, I_l1999, I_l2000, I_eq, if_pos, if_neg]
        exact obind (f0_chapterTotal (by omega)) rfl
      · simp (disch := omega) only [if_true, if_false, I_add, I_sub, I_mul, I_neg, I_ofNat, Option.bind_some, kIn, I_l0, I_l1, I_l2, I_l3, I_l4, I_l5, I_l6, I_l8, I_l9, I_l10, I_l11, I_l32, I_l40, I_l43, I_l44, I_l45, I_l48, I_l49, I_l57, I_l58, I_l60, I_l61, I_l62, I_l79, I_l80, I_l100, I_l120, I_l180, I_l200, I_l240, I_l300, I_l360, I_l361, I_l362, I_l363, I_l364, I_l365, I_l485, I_l605, I_l1999, I_l2000, I_eq, I_le, I_lt, I_toInt, cz_at, if_pos, if_neg]
        exact congrArg (fun z => some (I z, I (pgC (hgt c0 l0 c1 l1 L R (wdt w 0) (wdt w 1) h) (nts o0 o1 L R) ph g), cz b19, cz b20, cz b21, cz b22)) w362
    · refine ⟨I (at0 c1 n1 (n1 - 1)), cz f4, cz f5, cz f6, cz f7, x8, I f9, x10, I (pgC (hgt c0 l0 c1 l1 L R (wdt w 0) (wdt w 1) h) (nts o0 o1 L R) ph g), cz b19, cz b20, cz b21, cz b22, obind e1 ((if_neg (by decide)).trans ?_), obind e2 ((if_neg (by decide)).trans (obind v5 ?_))⟩
      · simp (disch := omega) only [if_true, if_false, I_add, I_sub, I_mul, I_neg, I_ofNat, Option.bind_some, kIn, I_l0, I_l1, I_l2, I_l3, I_l4, I_l5, I_l6, I_l8, I_l9, I_l10, I_l11, I_l32, I_l40, I_l43, I_l44, I_l45, I_l48, I_l49, I_l57, I_l58, I_l60, I_l61, I_l62, I_l79, I_l80, I_l100, I_l120, I_l180, I_l200, I_l240, I_l300, I_l360, I_l361, I_l362, I_l363, I_l364, I_l365, I_l485, I_l605, I_l1999, I_l2000, I_eq, if_pos, if_neg]
        exact obind (f0_chapterTotal (by omega)) rfl
      · simp (disch := omega) only [if_true, if_false, I_add, I_sub, I_mul, I_neg, I_ofNat, Option.bind_some, kIn, I_l0, I_l1, I_l2, I_l3, I_l4, I_l5, I_l6, I_l8, I_l9, I_l10, I_l11, I_l32, I_l40, I_l43, I_l44, I_l45, I_l48, I_l49, I_l57, I_l58, I_l60, I_l61, I_l62, I_l79, I_l80, I_l100, I_l120, I_l180, I_l200, I_l240, I_l300, I_l360, I_l361, I_l362, I_l363, I_l364, I_l365, I_l485, I_l605, I_l1999, I_l2000, I_eq, I_le, I_lt, I_toInt, cz_at, if_pos, if_neg]
        exact congrArg (fun z => some (I z, I (pgC (hgt c0 l0 c1 l1 L R (wdt w 0) (wdt w 1) h) (nts o0 o1 L R) ph g), cz b19, cz b20, cz b21, cz b22)) w363
    · refine ⟨I n0, cz f4, cz f5, cz f6, cz f7, x8, I f9, x10, I (pgC (hgt c0 l0 c1 l1 L R (wdt w 0) (wdt w 1) h) (nts o0 o1 L R) ph g), cz b19, cz b20, cz b21, cz b22, obind e1 ((if_neg (by decide)).trans ?_), obind e2 ((if_neg (by decide)).trans (obind v5 ?_))⟩
      · simp (disch := omega) only [if_true, if_false, I_add, I_sub, I_mul, I_neg, I_ofNat, Option.bind_some, kIn, I_l0, I_l1, I_l2, I_l3, I_l4, I_l5, I_l6, I_l8, I_l9, I_l10, I_l11, I_l32, I_l40, I_l43, I_l44, I_l45, I_l48, I_l49, I_l57, I_l58, I_l60, I_l61, I_l62, I_l79, I_l80, I_l100, I_l120, I_l180, I_l200, I_l240, I_l300, I_l360, I_l361, I_l362, I_l363, I_l364, I_l365, I_l485, I_l605, I_l1999, I_l2000, I_eq, if_pos, if_neg]
      · simp (disch := omega) only [if_true, if_false, I_add, I_sub, I_mul, I_neg, I_ofNat, Option.bind_some, kIn, I_l0, I_l1, I_l2, I_l3, I_l4, I_l5, I_l6, I_l8, I_l9, I_l10, I_l11, I_l32, I_l40, I_l43, I_l44, I_l45, I_l48, I_l49, I_l57, I_l58, I_l60, I_l61, I_l62, I_l79, I_l80, I_l100, I_l120, I_l180, I_l200, I_l240, I_l300, I_l360, I_l361, I_l362, I_l363, I_l364, I_l365, I_l485, I_l605, I_l1999, I_l2000, I_eq, I_le, I_lt, I_toInt, cz_at, if_pos, if_neg]
        exact congrArg (fun z => some (I z, I (pgC (hgt c0 l0 c1 l1 L R (wdt w 0) (wdt w 1) h) (nts o0 o1 L R) ph g), cz b19, cz b20, cz b21, cz b22)) w360
    · refine ⟨I n1, cz f4, cz f5, cz f6, cz f7, x8, I f9, x10, I (pgC (hgt c0 l0 c1 l1 L R (wdt w 0) (wdt w 1) h) (nts o0 o1 L R) ph g), cz b19, cz b20, cz b21, cz b22, obind e1 ((if_neg (by decide)).trans ?_), obind e2 ((if_neg (by decide)).trans (obind v5 ?_))⟩
      · simp (disch := omega) only [if_true, if_false, I_add, I_sub, I_mul, I_neg, I_ofNat, Option.bind_some, kIn, I_l0, I_l1, I_l2, I_l3, I_l4, I_l5, I_l6, I_l8, I_l9, I_l10, I_l11, I_l32, I_l40, I_l43, I_l44, I_l45, I_l48, I_l49, I_l57, I_l58, I_l60, I_l61, I_l62, I_l79, I_l80, I_l100, I_l120, I_l180, I_l200, I_l240, I_l300, I_l360, I_l361, I_l362, I_l363, I_l364, I_l365, I_l485, I_l605, I_l1999, I_l2000, I_eq, if_pos, if_neg]
      · simp (disch := omega) only [if_true, if_false, I_add, I_sub, I_mul, I_neg, I_ofNat, Option.bind_some, kIn, I_l0, I_l1, I_l2, I_l3, I_l4, I_l5, I_l6, I_l8, I_l9, I_l10, I_l11, I_l32, I_l40, I_l43, I_l44, I_l45, I_l48, I_l49, I_l57, I_l58, I_l60, I_l61, I_l62, I_l79, I_l80, I_l100, I_l120, I_l180, I_l200, I_l240, I_l300, I_l360, I_l361, I_l362, I_l363, I_l364, I_l365, I_l485, I_l605, I_l1999, I_l2000, I_eq, I_le, I_lt, I_toInt, cz_at, if_pos, if_neg]
        exact congrArg (fun z => some (I z, I (pgC (hgt c0 l0 c1 l1 L R (wdt w 0) (wdt w 1) h) (nts o0 o1 L R) ph g), cz b19, cz b20, cz b21, cz b22)) w361
    · refine ⟨I g, cz f4, cz f5, cz f6, cz f7, x8, I f9, x10, I (pgC (hgt c0 l0 c1 l1 L R (wdt w 0) (wdt w 1) h) (nts o0 o1 L R) ph g), cz b19, cz b20, cz b21, cz b22, obind e1 ((if_neg (by decide)).trans ?_), obind e2 ((if_neg (by decide)).trans (obind v5 ?_))⟩
      · simp (disch := omega) only [if_true, if_false, I_add, I_sub, I_mul, I_neg, I_ofNat, Option.bind_some, kIn, I_l0, I_l1, I_l2, I_l3, I_l4, I_l5, I_l6, I_l8, I_l9, I_l10, I_l11, I_l32, I_l40, I_l43, I_l44, I_l45, I_l48, I_l49, I_l57, I_l58, I_l60, I_l61, I_l62, I_l79, I_l80, I_l100, I_l120, I_l180, I_l200, I_l240, I_l300, I_l360, I_l361, I_l362, I_l363, I_l364, I_l365, I_l485, I_l605, I_l1999, I_l2000, I_eq, if_pos, if_neg]
      · simp (disch := omega) only [if_true, if_false, I_add, I_sub, I_mul, I_neg, I_ofNat, Option.bind_some, kIn, I_l0, I_l1, I_l2, I_l3, I_l4, I_l5, I_l6, I_l8, I_l9, I_l10, I_l11, I_l32, I_l40, I_l43, I_l44, I_l45, I_l48, I_l49, I_l57, I_l58, I_l60, I_l61, I_l62, I_l79, I_l80, I_l100, I_l120, I_l180, I_l200, I_l240, I_l300, I_l360, I_l361, I_l362, I_l363, I_l364, I_l365, I_l485, I_l605, I_l1999, I_l2000, I_eq, I_le, I_lt, I_toInt, cz_at, if_pos, if_neg]
        rw [f10_groups, rm.1]
        rfl
    · refine ⟨I (ksm L R 0 g), cz f4, cz f5, cz f6, cz f7, x8, I f9, x10, I (pgC (hgt c0 l0 c1 l1 L R (wdt w 0) (wdt w 1) h) (nts o0 o1 L R) ph g), cz b19, cz b20, cz b21, cz b22, obind e1 ((if_neg (by decide)).trans ?_), obind e2 ((if_neg (by decide)).trans (obind v5 ?_))⟩
      · simp (disch := omega) only [if_true, if_false, I_add, I_sub, I_mul, I_neg, I_ofNat, Option.bind_some, kIn, I_l0, I_l1, I_l2, I_l3, I_l4, I_l5, I_l6, I_l8, I_l9, I_l10, I_l11, I_l32, I_l40, I_l43, I_l44, I_l45, I_l48, I_l49, I_l57, I_l58, I_l60, I_l61, I_l62, I_l79, I_l80, I_l100, I_l120, I_l180, I_l200, I_l240, I_l300, I_l360, I_l361, I_l362, I_l363, I_l364, I_l365, I_l485, I_l605, I_l1999, I_l2000, I_eq, if_pos, if_neg]
        exact obind (f1_kindTotal (x := 0) (by omega) hLb hRb) rfl
      · simp (disch := omega) only [if_true, if_false, I_add, I_sub, I_mul, I_neg, I_ofNat, Option.bind_some, kIn, I_l0, I_l1, I_l2, I_l3, I_l4, I_l5, I_l6, I_l8, I_l9, I_l10, I_l11, I_l32, I_l40, I_l43, I_l44, I_l45, I_l48, I_l49, I_l57, I_l58, I_l60, I_l61, I_l62, I_l79, I_l80, I_l100, I_l120, I_l180, I_l200, I_l240, I_l300, I_l360, I_l361, I_l362, I_l363, I_l364, I_l365, I_l485, I_l605, I_l1999, I_l2000, I_eq, I_le, I_lt, I_toInt, cz_at, if_pos, if_neg]
        exact obind (f10_ofKind (x := 0) (by omega) hLb hRb rm) rfl
    · refine ⟨I (ksm L R 1 g), cz f4, cz f5, cz f6, cz f7, x8, I f9, x10, I (pgC (hgt c0 l0 c1 l1 L R (wdt w 0) (wdt w 1) h) (nts o0 o1 L R) ph g), cz b19, cz b20, cz b21, cz b22, obind e1 ((if_neg (by decide)).trans ?_), obind e2 ((if_neg (by decide)).trans (obind v5 ?_))⟩
      · simp (disch := omega) only [if_true, if_false, I_add, I_sub, I_mul, I_neg, I_ofNat, Option.bind_some, kIn, I_l0, I_l1, I_l2, I_l3, I_l4, I_l5, I_l6, I_l8, I_l9, I_l10, I_l11, I_l32, I_l40, I_l43, I_l44, I_l45, I_l48, I_l49, I_l57, I_l58, I_l60, I_l61, I_l62, I_l79, I_l80, I_l100, I_l120, I_l180, I_l200, I_l240, I_l300, I_l360, I_l361, I_l362, I_l363, I_l364, I_l365, I_l485, I_l605, I_l1999, I_l2000, I_eq, if_pos, if_neg]
        exact obind (f1_kindTotal (x := 1) (by omega) hLb hRb) rfl
      · simp (disch := omega) only [if_true, if_false, I_add, I_sub, I_mul, I_neg, I_ofNat, Option.bind_some, kIn, I_l0, I_l1, I_l2, I_l3, I_l4, I_l5, I_l6, I_l8, I_l9, I_l10, I_l11, I_l32, I_l40, I_l43, I_l44, I_l45, I_l48, I_l49, I_l57, I_l58, I_l60, I_l61, I_l62, I_l79, I_l80, I_l100, I_l120, I_l180, I_l200, I_l240, I_l300, I_l360, I_l361, I_l362, I_l363, I_l364, I_l365, I_l485, I_l605, I_l1999, I_l2000, I_eq, I_le, I_lt, I_toInt, cz_at, if_pos, if_neg]
        exact obind (f10_ofKind (x := 1) (by omega) hLb hRb rm) rfl
    · refine ⟨I (ksm L R 2 g), cz f4, cz f5, cz f6, cz f7, x8, I f9, x10, I (pgC (hgt c0 l0 c1 l1 L R (wdt w 0) (wdt w 1) h) (nts o0 o1 L R) ph g), cz b19, cz b20, cz b21, cz b22, obind e1 ((if_neg (by decide)).trans ?_), obind e2 ((if_neg (by decide)).trans (obind v5 ?_))⟩
      · simp (disch := omega) only [if_true, if_false, I_add, I_sub, I_mul, I_neg, I_ofNat, Option.bind_some, kIn, I_l0, I_l1, I_l2, I_l3, I_l4, I_l5, I_l6, I_l8, I_l9, I_l10, I_l11, I_l32, I_l40, I_l43, I_l44, I_l45, I_l48, I_l49, I_l57, I_l58, I_l60, I_l61, I_l62, I_l79, I_l80, I_l100, I_l120, I_l180, I_l200, I_l240, I_l300, I_l360, I_l361, I_l362, I_l363, I_l364, I_l365, I_l485, I_l605, I_l1999, I_l2000, I_eq, if_pos, if_neg]
        exact obind (f1_kindTotal (x := 2) (by omega) hLb hRb) rfl
      · simp (disch := omega) only [if_true, if_false, I_add, I_sub, I_mul, I_neg, I_ofNat, Option.bind_some, kIn, I_l0, I_l1, I_l2, I_l3, I_l4, I_l5, I_l6, I_l8, I_l9, I_l10, I_l11, I_l32, I_l40, I_l43, I_l44, I_l45, I_l48, I_l49, I_l57, I_l58, I_l60, I_l61, I_l62, I_l79, I_l80, I_l100, I_l120, I_l180, I_l200, I_l240, I_l300, I_l360, I_l361, I_l362, I_l363, I_l364, I_l365, I_l485, I_l605, I_l1999, I_l2000, I_eq, I_le, I_lt, I_toInt, cz_at, if_pos, if_neg]
        exact obind (f10_ofKind (x := 2) (by omega) hLb hRb rm) rfl
    · refine ⟨I (ksm L R 3 g), cz f4, cz f5, cz f6, cz f7, x8, I f9, x10, I (pgC (hgt c0 l0 c1 l1 L R (wdt w 0) (wdt w 1) h) (nts o0 o1 L R) ph g), cz b19, cz b20, cz b21, cz b22, obind e1 ((if_neg (by decide)).trans ?_), obind e2 ((if_neg (by decide)).trans (obind v5 ?_))⟩
      · simp (disch := omega) only [if_true, if_false, I_add, I_sub, I_mul, I_neg, I_ofNat, Option.bind_some, kIn, I_l0, I_l1, I_l2, I_l3, I_l4, I_l5, I_l6, I_l8, I_l9, I_l10, I_l11, I_l32, I_l40, I_l43, I_l44, I_l45, I_l48, I_l49, I_l57, I_l58, I_l60, I_l61, I_l62, I_l79, I_l80, I_l100, I_l120, I_l180, I_l200, I_l240, I_l300, I_l360, I_l361, I_l362, I_l363, I_l364, I_l365, I_l485, I_l605, I_l1999, I_l2000, I_eq, if_pos, if_neg]
        exact obind (f1_kindTotal (x := 3) (by omega) hLb hRb) rfl
      · simp (disch := omega) only [if_true, if_false, I_add, I_sub, I_mul, I_neg, I_ofNat, Option.bind_some, kIn, I_l0, I_l1, I_l2, I_l3, I_l4, I_l5, I_l6, I_l8, I_l9, I_l10, I_l11, I_l32, I_l40, I_l43, I_l44, I_l45, I_l48, I_l49, I_l57, I_l58, I_l60, I_l61, I_l62, I_l79, I_l80, I_l100, I_l120, I_l180, I_l200, I_l240, I_l300, I_l360, I_l361, I_l362, I_l363, I_l364, I_l365, I_l485, I_l605, I_l1999, I_l2000, I_eq, I_le, I_lt, I_toInt, cz_at, if_pos, if_neg]
        exact obind (f10_ofKind (x := 3) (by omega) hLb hRb rm) rfl
    · refine ⟨I (pgC (hgt c0 l0 c1 l1 L R (wdt w 0) (wdt w 1) h) (nts o0 o1 L R) ph g), cz hc, cz nc, cz pn, cz ls, I g, I (pgC (hgt c0 l0 c1 l1 L R (wdt w 0) (wdt w 1) h) (nts o0 o1 L R) ph g), I (Sm (emp c0 l0 c1 l1 L R (wdt w 0) (wdt w 1) h) g), I (pgC (hgt c0 l0 c1 l1 L R (wdt w 0) (wdt w 1) h) (nts o0 o1 L R) ph g), cz b19, cz b20, cz b21, cz b22, obind e1 ((if_neg (by decide)).trans ?_), obind e2 ((if_neg (by decide)).trans (obind v5 ?_))⟩
      · simp (disch := omega) only [if_true, if_false, I_add, I_sub, I_mul, I_neg, I_ofNat, Option.bind_some, kIn, I_l0, I_l1, I_l2, I_l3, I_l4, I_l5, I_l6, I_l8, I_l9, I_l10, I_l11, I_l32, I_l40, I_l43, I_l44, I_l45, I_l48, I_l49, I_l57, I_l58, I_l60, I_l61, I_l62, I_l79, I_l80, I_l100, I_l120, I_l180, I_l200, I_l240, I_l300, I_l360, I_l361, I_l362, I_l363, I_l364, I_l365, I_l485, I_l605, I_l1999, I_l2000, I_eq, if_pos, if_neg]
        exact obind (v2) rfl
      · simp (disch := omega) only [if_true, if_false, I_add, I_sub, I_mul, I_neg, I_ofNat, Option.bind_some, kIn, I_l0, I_l1, I_l2, I_l3, I_l4, I_l5, I_l6, I_l8, I_l9, I_l10, I_l11, I_l32, I_l40, I_l43, I_l44, I_l45, I_l48, I_l49, I_l57, I_l58, I_l60, I_l61, I_l62, I_l79, I_l80, I_l100, I_l120, I_l180, I_l200, I_l240, I_l300, I_l360, I_l361, I_l362, I_l363, I_l364, I_l365, I_l485, I_l605, I_l1999, I_l2000, I_eq, I_le, I_lt, I_toInt, cz_at, if_pos, if_neg]
    · refine ⟨I (Sm (emp c0 l0 c1 l1 L R (wdt w 0) (wdt w 1) h) g), cz hc, cz nc, cz pn, cz ls, I g, I (pgC (hgt c0 l0 c1 l1 L R (wdt w 0) (wdt w 1) h) (nts o0 o1 L R) ph g), I (Sm (emp c0 l0 c1 l1 L R (wdt w 0) (wdt w 1) h) g), I (pgC (hgt c0 l0 c1 l1 L R (wdt w 0) (wdt w 1) h) (nts o0 o1 L R) ph g), cz b19, cz b20, cz b21, cz b22, obind e1 ((if_neg (by decide)).trans ?_), obind e2 ((if_neg (by decide)).trans (obind v5 ?_))⟩
      · simp (disch := omega) only [if_true, if_false, I_add, I_sub, I_mul, I_neg, I_ofNat, Option.bind_some, kIn, I_l0, I_l1, I_l2, I_l3, I_l4, I_l5, I_l6, I_l8, I_l9, I_l10, I_l11, I_l32, I_l40, I_l43, I_l44, I_l45, I_l48, I_l49, I_l57, I_l58, I_l60, I_l61, I_l62, I_l79, I_l80, I_l100, I_l120, I_l180, I_l200, I_l240, I_l300, I_l360, I_l361, I_l362, I_l363, I_l364, I_l365, I_l485, I_l605, I_l1999, I_l2000, I_eq, if_pos, if_neg]
        exact obind (v2) rfl
      · simp (disch := omega) only [if_true, if_false, I_add, I_sub, I_mul, I_neg, I_ofNat, Option.bind_some, kIn, I_l0, I_l1, I_l2, I_l3, I_l4, I_l5, I_l6, I_l8, I_l9, I_l10, I_l11, I_l32, I_l40, I_l43, I_l44, I_l45, I_l48, I_l49, I_l57, I_l58, I_l60, I_l61, I_l62, I_l79, I_l80, I_l100, I_l120, I_l180, I_l200, I_l240, I_l300, I_l360, I_l361, I_l362, I_l363, I_l364, I_l365, I_l485, I_l605, I_l1999, I_l2000, I_eq, I_le, I_lt, I_toInt, cz_at, if_pos, if_neg]
        exact obind (f10_empty k0 k1 kM r0 r1 rm hd.1 hd.2 hh) rfl
    · refine ⟨kk, cz f4, cz f5, cz f6, cz f7, x8, I f9, x10, I (pgC (hgt c0 l0 c1 l1 L R (wdt w 0) (wdt w 1) h) (nts o0 o1 L R) ph g), cz b19, cz b20, cz b21, cz b22, obind e1 ((if_neg (by decide)).trans ?_), obind e2 ((if_neg (by decide)).trans (obind v5 ?_))⟩
      · simp (disch := omega) only [if_true, if_false, I_add, I_sub, I_mul, I_neg, I_ofNat, Option.bind_some, kIn, I_l0, I_l1, I_l2, I_l3, I_l4, I_l5, I_l6, I_l8, I_l9, I_l10, I_l11, I_l32, I_l40, I_l43, I_l44, I_l45, I_l48, I_l49, I_l57, I_l58, I_l60, I_l61, I_l62, I_l79, I_l80, I_l100, I_l120, I_l180, I_l200, I_l240, I_l300, I_l360, I_l361, I_l362, I_l363, I_l364, I_l365, I_l485, I_l605, I_l1999, I_l2000, I_eq, if_pos, if_neg]
        exact if_neg (by decide)
      · simp (disch := omega) only [if_true, if_false, I_add, I_sub, I_mul, I_neg, I_ofNat, Option.bind_some, kIn, I_l0, I_l1, I_l2, I_l3, I_l4, I_l5, I_l6, I_l8, I_l9, I_l10, I_l11, I_l32, I_l40, I_l43, I_l44, I_l45, I_l48, I_l49, I_l57, I_l58, I_l60, I_l61, I_l62, I_l79, I_l80, I_l100, I_l120, I_l180, I_l200, I_l240, I_l300, I_l360, I_l361, I_l362, I_l363, I_l364, I_l365, I_l485, I_l605, I_l1999, I_l2000, I_eq, I_le, I_lt, I_toInt, cz_at, if_pos, if_neg]
  · have e1 : pX9_isWithin (I y) (I 0) (I 11) = some (I 0) := by rw [f9_isWithin (by omega), if_neg q2]
    have e2 : pX10_in (I y) (I 0) (I 11) = some (I 0) := by rw [f10_in (by omega), if_neg q2]
    exact ⟨_, _, _, _, _, _, _, _, _, _, _, _, _, obind e1 (if_pos (by decide)), obind e2 (if_pos (by decide))⟩
end ASK5
