-- a group asked: both sides alike
theorem f9_fvn {L R : Int → Int} {g a b : Int} (h : (0 ≤ g ∧ g ≤ 120) ∧ (0 ≤ a ∧ a < g) ∧ 0 ≤ b ∧ b ≤ 1) (hb : 0 ≤ sel b L R a ∧ sel b L R a ≤ 1000) : pX9_firstVerseOrNone (cz L) (cz R) (I g) (I a) (I b) = some (I (if sel b L R a = 0 then -5 else Sm (sel b L R) a)) := by
  unfold pX9_firstVerseOrNone
  rw [f1_sizeOf (by omega), f1_firstOf (by omega), at0_in h.2.1]
  simp (disch := omega) only [if_true, if_false, I_add, I_sub, I_mul, I_neg, I_ofNat, Option.bind_some, kIn, I_l0, I_l1, I_l2, I_l3, I_l4, I_l5, I_l6, I_l8, I_l9, I_l10, I_l11, I_l32, I_l40, I_l43, I_l44, I_l45, I_l48, I_l49, I_l57, I_l58, I_l60, I_l61, I_l62, I_l79, I_l80, I_l100, I_l120, I_l180, I_l200, I_l240, I_l300, I_l360, I_l361, I_l362, I_l363, I_l364, I_l365, I_l485, I_l605, I_l1999, I_l2000, I_eq]
  by_cases z : sel b L R a = 0
  · rw [if_pos z, if_pos z]
  · rw [if_neg z, if_neg z]
section ASK6
variable {W : Int → Int} {vL0 vL1 vL2 : Nat → Int32} {vL3 : Int32} {vR0 vR1 vR2 : Nat → Int32} {vR3 : Int32} {vM0 vM1 : Nat → Int32} {vM2 : Int32} {y0 y1 y2 y3 d6 d7 : Int32} {w : Int → Int} {ph h : Int}
theorem e_group (hS : rS ((vL0, vL1, vL2, vL3), (vR0, vR1, vR2, vR3), (vM0, vM1, vM2)) W) (hW : rW y0 y1 w) (hZ : rZ y2 y3 d6 d7 ph h) (x4 x5 x6 x7 : Nat → Int32) (x8 x9 x10 d18 : Int32) (d19 d20 d21 d22 : Nat → Int32) (i1 i2 : Int32) : ∃ (a : Int32) (z4 z5 z6 z7 : Nat → Int32) (z8 z9 z10 e18 : Int32) (e19 e20 e21 e22 : Nat → Int32), pX9_group vL0 vL1 vL2 vL3 vR0 vR1 vR2 vR3 vM0 vM1 vM2 y0 y1 y2 y3 x4 x5 x6 x7 x8 x9 x10 i1 i2 = some (a, z4, z5, z6, z7, z8, z9, z10) ∧ pX10_group (cz W) (cz w) d6 d7 d18 d19 d20 d21 d22 i1 i2 = some (a, e18, e19, e20, e21, e22) := by
  obtain ⟨p, hp, rfl⟩ := I_of i1
  obtain ⟨y, hy, rfl⟩ := I_of i2
  obtain ⟨c0, l0, o0, n0, c1, l1, o1, n1, L, R, g, e, k0, k1, kM, r0, r1, rm⟩ := id hS
  simp only [Prod.mk.injEq] at e
  obtain ⟨⟨rfl, rfl, rfl, rfl⟩, ⟨rfl, rfl, rfl, rfl⟩, rfl, rfl, rfl⟩ := e
  have hd := hW.bd
  obtain ⟨rfl, rfl, w0, w1⟩ := id hW
  obtain ⟨rfl, rfl, rfl, rfl, hph, hh⟩ := hZ
  obtain ⟨f4, rfl, -⟩ := cz_of x4
  obtain ⟨f5, rfl, -⟩ := cz_of x5
  obtain ⟨f6, rfl, -⟩ := cz_of x6
  obtain ⟨f7, rfl, -⟩ := cz_of x7
  obtain ⟨f9, -, rfl⟩ := I_of x9
  obtain ⟨a19, rfl, -⟩ := cz_of d19
  obtain ⟨a20, rfl, -⟩ := cz_of d20
  obtain ⟨a21, rfl, -⟩ := cz_of d21
  obtain ⟨a22, rfl, -⟩ := cz_of d22
  have hg := kM.1
  have b0 := k0.1
  have b1 := k1.1
  unfold pX9_group pX10_group
  simp only [if_true, if_false, I_add, I_sub, I_mul, I_neg, I_ofNat, Option.bind_some, kIn, I_l0, I_l1, I_l2, I_l3, I_l4, I_l5, I_l6, I_l8, I_l9, I_l10, I_l11, I_l32, I_l40, I_l43, I_l44, I_l45, I_l48, I_l49, I_l57, I_l58, I_l60, I_l61, I_l62, I_l79, I_l80, I_l100, I_l120, I_l180, I_l200, I_l240, I_l300, I_l360, I_l361, I_l362, I_l363, I_l364, I_l365, I_l485, I_l605, I_l1999, I_l2000]
  by_cases q : 0 ≤ p ∧ p < g
  · have e0 := f1_hasT (n := g) (a := p) (by omega)
    have e3 : pX10_noGroup (cz W) (I p) = some (I 0) := by rw [f10_noGroup (by omega) rm.1, if_pos q]
    have h0 := okM_S (b := 0) kM p q.1 q.2
    have h1 := okM_S (b := 1) kM p q.1 q.2
    have u0 : sel 0 L R p = L p := rfl
    have u1 : sel 1 L R p = R p := rfl
    obtain ⟨hc, nc, pn, ls, v1, v2⟩ := f3_arrange (hc := f4) (nc := f5) (pn := f6) (ls := f7) (c9 := f9) k0 k1 kM hd.2.1 hd.2.2 hh (ph := ph) (by omega)
    obtain ⟨b19, b20, b21, b22, v3, v4, v5⟩ := f10_layPages (a19 := a19) (a20 := a20) (a21 := a21) (a22 := a22) k0 k1 kM r0 r1 rm hd.1 hd.2 hh (ph := ph) (by omega) _ _ rfl rfl
    have v6 := v1 p q.1 q.2
    have v7 := v3 p q.1 q.2
    by_cases q2 : 0 ≤ y ∧ y ≤ 8
    · have e1 : pX9_isWithin (I y) (I 0) (I 8) = some (I 1) := by rw [f9_isWithin (by omega), if_pos q2]
      have hyy : y = 0 ∨ y = 1 ∨ y = 2 ∨ y = 3 ∨ y = 4 ∨ y = 5 ∨ y = 6 ∨ y = 7 ∨ y = 8 := by omega
      rcases hyy with rfl | rfl | rfl | rfl | rfl | rfl | rfl | rfl | rfl
      · refine ⟨I (knd (L p) (R p)), cz f4, cz f5, cz f6, cz f7, x8, I f9, x10, I (pgC (hgt c0 l0 c1 l1 L R (wdt w 0) (wdt w 1) h) (nts o0 o1 L R) ph g), cz b19, cz b20, cz b21, cz b22, obind e0 ((if_neg (by decide)).trans (obind e1 ((if_neg (by decide)).trans ?_))), obind e3 ((if_pos (by decide)).trans (obind v5 ?_))⟩
        · refine (if_pos (by decide)).trans ?_
          unfold pX9_group_j45
          simp (disch := omega) only [if_true, if_false, I_add, I_sub, I_mul, I_neg, I_ofNat, Option.bind_some, kIn, I_l0, I_l1, I_l2, I_l3, I_l4, I_l5, I_l6, I_l8, I_l9, I_l10, I_l11, I_l32, I_l40, I_l43, I_l44, I_l45, I_l48, I_l49, I_l57, I_l58, I_l60, I_l61, I_l62, I_l79, I_l80, I_l100, I_l120, I_l180, I_l200, I_l240, I_l300, I_l360, I_l361, I_l362, I_l363, I_l364, I_l365, I_l485, I_l605, I_l1999, I_l2000, I_eq, if_pos, if_neg]
          exact obind (f1_kindOf (by omega) (by omega) (by omega)) rfl
        · simp (disch := omega) only [if_true, if_false, I_add, I_sub, I_mul, I_neg, I_ofNat, Option.bind_some, kIn, I_l0, I_l1, I_l2, I_l3, I_l4, I_l5, I_l6, I_l8, I_l9, I_l10, I_l11, I_l32, I_l40, I_l43, I_l44, I_l45, I_l48, I_l49, I_l57, I_l58, I_l60, I_l61, I_l62, I_l79, I_l80, I_l100, I_l120, I_l180, I_l200, I_l240, I_l300, I_l360, I_l361, I_l362, I_l363, I_l364, I_l365, I_l485, I_l605, I_l1999, I_l2000, I_eq, I_le, I_lt, I_toInt, cz_at, if_pos, if_neg]
          exact obind (f10_kind (by omega) (by omega) (by omega) rm) rfl
      · refine ⟨I (if sel 0 L R p = 0 then -5 else Sm (sel 0 L R) p), cz f4, cz f5, cz f6, cz f7, x8, I f9, x10, I (pgC (hgt c0 l0 c1 l1 L R (wdt w 0) (wdt w 1) h) (nts o0 o1 L R) ph g), cz b19, cz b20, cz b21, cz b22, obind e0 ((if_neg (by decide)).trans (obind e1 ((if_neg (by decide)).trans ?_))), obind e3 ((if_pos (by decide)).trans (obind v5 ?_))⟩
        · refine (if_pos (by decide)).trans ?_
          unfold pX9_group_j45
          simp (disch := omega) only [if_true, if_false, I_add, I_sub, I_mul, I_neg, I_ofNat, Option.bind_some, kIn, I_l0, I_l1, I_l2, I_l3, I_l4, I_l5, I_l6, I_l8, I_l9, I_l10, I_l11, I_l32, I_l40, I_l43, I_l44, I_l45, I_l48, I_l49, I_l57, I_l58, I_l60, I_l61, I_l62, I_l79, I_l80, I_l100, I_l120, I_l180, I_l200, I_l240, I_l300, I_l360, I_l361, I_l362, I_l363, I_l364, I_l365, I_l485, I_l605, I_l1999, I_l2000, I_eq, if_pos, if_neg]
          exact obind (f9_fvn (b := 0) (by omega) (by omega)) rfl
        · simp (disch := omega) only [if_true, if_false, I_add, I_sub, I_mul, I_neg, I_ofNat, Option.bind_some, kIn, I_l0, I_l1, I_l2, I_l3, I_l4, I_l5, I_l6, I_l8, I_l9, I_l10, I_l11, I_l32, I_l40, I_l43, I_l44, I_l45, I_l48, I_l49, I_l57, I_l58, I_l60, I_l61, I_l62, I_l79, I_l80, I_l100, I_l120, I_l180, I_l200, I_l240, I_l300, I_l360, I_l361, I_l362, I_l363, I_l364, I_l365, I_l485, I_l605, I_l1999, I_l2000, I_eq, I_le, I_lt, I_toInt, cz_at, if_pos, if_neg]
          rw [f10_has (b := 0) ⟨hg, q, by omega⟩ rm]
          simp (disch := omega) only [if_true, if_false, I_add, I_sub, I_mul, I_neg, I_ofNat, Option.bind_some, kIn, I_l0, I_l1, I_l2, I_l3, I_l4, I_l5, I_l6, I_l8, I_l9, I_l10, I_l11, I_l32, I_l40, I_l43, I_l44, I_l45, I_l48, I_l49, I_l57, I_l58, I_l60, I_l61, I_l62, I_l79, I_l80, I_l100, I_l120, I_l180, I_l200, I_l240, I_l300, I_l360, I_l361, I_l362, I_l363, I_l364, I_l365, I_l485, I_l605, I_l1999, I_l2000, I_eq]
          by_cases z : sel 0 L R p = 0
          · rw [if_pos z, if_pos z]
          · rw [if_neg z, if_neg z]
            exact obind (f10_firstIn (b := 0) (by omega) rm) rfl
      · refine ⟨I (at0 (sel 0 L R) g p), cz f4, cz f5, cz f6, cz f7, x8, I f9, x10, I (pgC (hgt c0 l0 c1 l1 L R (wdt w 0) (wdt w 1) h) (nts o0 o1 L R) ph g), cz b19, cz b20, cz b21, cz b22, obind e0 ((if_neg (by decide)).trans (obind e1 ((if_neg (by decide)).trans ?_))), obind e3 ((if_pos (by decide)).trans (obind v5 ?_))⟩
        · refine (if_pos (by decide)).trans ?_
          unfold pX9_group_j45
          simp (disch := omega) only [if_true, if_false, I_add, I_sub, I_mul, I_neg, I_ofNat, Option.bind_some, kIn, I_l0, I_l1, I_l2, I_l3, I_l4, I_l5, I_l6, I_l8, I_l9, I_l10, I_l11, I_l32, I_l40, I_l43, I_l44, I_l45, I_l48, I_l49, I_l57, I_l58, I_l60, I_l61, I_l62, I_l79, I_l80, I_l100, I_l120, I_l180, I_l200, I_l240, I_l300, I_l360, I_l361, I_l362, I_l363, I_l364, I_l365, I_l485, I_l605, I_l1999, I_l2000, I_eq, if_pos, if_neg]
          exact obind (f1_sizeOf (b := 0) (by omega)) rfl
        · simp (disch := omega) only [if_true, if_false, I_add, I_sub, I_mul, I_neg, I_ofNat, Option.bind_some, kIn, I_l0, I_l1, I_l2, I_l3, I_l4, I_l5, I_l6, I_l8, I_l9, I_l10, I_l11, I_l32, I_l40, I_l43, I_l44, I_l45, I_l48, I_l49, I_l57, I_l58, I_l60, I_l61, I_l62, I_l79, I_l80, I_l100, I_l120, I_l180, I_l200, I_l240, I_l300, I_l360, I_l361, I_l362, I_l363, I_l364, I_l365, I_l485, I_l605, I_l1999, I_l2000, I_eq, I_le, I_lt, I_toInt, cz_at, if_pos, if_neg]
          rw [at0_in q]
          exact obind (f10_has (b := 0) ⟨hg, q, by omega⟩ rm) rfl
      · refine ⟨I (if sel 1 L R p = 0 then -5 else Sm (sel 1 L R) p), cz f4, cz f5, cz f6, cz f7, x8, I f9, x10, I (pgC (hgt c0 l0 c1 l1 L R (wdt w 0) (wdt w 1) h) (nts o0 o1 L R) ph g), cz b19, cz b20, cz b21, cz b22, obind e0 ((if_neg (by decide)).trans (obind e1 ((if_neg (by decide)).trans ?_))), obind e3 ((if_pos (by decide)).trans (obind v5 ?_))⟩
        · refine (if_pos (by decide)).trans ?_
          unfold pX9_group_j45
          simp (disch := omega) only [if_true, if_false, I_add, I_sub, I_mul, I_neg, I_ofNat, Option.bind_some, kIn, I_l0, I_l1, I_l2, I_l3, I_l4, I_l5, I_l6, I_l8, I_l9, I_l10, I_l11, I_l32, I_l40, I_l43, I_l44, I_l45, I_l48, I_l49, I_l57, I_l58, I_l60, I_l61, I_l62, I_l79, I_l80, I_l100, I_l120, I_l180, I_l200, I_l240, I_l300, I_l360, I_l361, I_l362, I_l363, I_l364, I_l365, I_l485, I_l605, I_l1999, I_l2000, I_eq, if_pos, if_neg]
          exact obind (f9_fvn (b := 1) (by omega) (by omega)) rfl
        · simp (disch := omega) only [if_true, if_false, I_add, I_sub, I_mul, I_neg, I_ofNat, Option.bind_some, kIn, I_l0, I_l1, I_l2, I_l3, I_l4, I_l5, I_l6, I_l8, I_l9, I_l10, I_l11, I_l32, I_l40, I_l43, I_l44, I_l45, I_l48, I_l49, I_l57, I_l58, I_l60, I_l61, I_l62, I_l79, I_l80, I_l100, I_l120, I_l180, I_l200, I_l240, I_l300, I_l360, I_l361, I_l362, I_l363, I_l364, I_l365, I_l485, I_l605, I_l1999, I_l2000, I_eq, I_le, I_lt, I_toInt, cz_at, if_pos, if_neg]
          rw [f10_has (b := 1) ⟨hg, q, by omega⟩ rm]
          simp (disch := omega) only [if_true, if_false, I_add, I_sub, I_mul, I_neg, I_ofNat, Option.bind_some, kIn, I_l0, I_l1, I_l2, I_l3, I_l4, I_l5, I_l6, I_l8, I_l9, I_l10, I_l11, I_l32, I_l40, I_l43, I_l44, I_l45, I_l48, I_l49, I_l57, I_l58, I_l60, I_l61, I_l62, I_l79, I_l80, I_l100, I_l120, I_l180, I_l200, I_l240, I_l300, I_l360, I_l361, I_l362, I_l363, I_l364, I_l365, I_l485, I_l605, I_l1999, I_l2000, I_eq]
          by_cases z : sel 1 L R p = 0
          · rw [if_pos z, if_pos z]
          · rw [if_neg z, if_neg z]
            exact obind (f10_firstIn (b := 1) (by omega) rm) rfl
      · refine ⟨I (at0 (sel 1 L R) g p), cz f4, cz f5, cz f6, cz f7, x8, I f9, x10, I (pgC (hgt c0 l0 c1 l1 L R (wdt w 0) (wdt w 1) h) (nts o0 o1 L R) ph g), cz b19, cz b20, cz b21, cz b22, obind e0 ((if_neg (by decide)).trans (obind e1 ((if_neg (by decide)).trans ?_))), obind e3 ((if_pos (by decide)).trans (obind v5 ?_))⟩
        · refine (if_pos (by decide)).trans ?_
          unfold pX9_group_j45
          simp (disch := omega) only [if_true, if_false, I_add, I_sub, I_mul, I_neg, I_ofNat, Option.bind_some, kIn, I_l0, I_l1, I_l2, I_l3, I_l4, I_l5, I_l6, I_l8, I_l9, I_l10, I_l11, I_l32, I_l40, I_l43, I_l44, I_l45, I_l48, I_l49, I_l57, I_l58, I_l60, I_l61, I_l62, I_l79, I_l80, I_l100, I_l120, I_l180, I_l200, I_l240, I_l300, I_l360, I_l361, I_l362, I_l363, I_l364, I_l365, I_l485, I_l605, I_l1999, I_l2000, I_eq, if_pos, if_neg]
          exact obind (f1_sizeOf (b := 1) (by omega)) rfl
        · simp (disch := omega) only [if_true, if_false, I_add, I_sub, I_mul, I_neg, I_ofNat, Option.bind_some, kIn, I_l0, I_l1, I_l2, I_l3, I_l4, I_l5, I_l6, I_l8, I_l9, I_l10, I_l11, I_l32, I_l40, I_l43, I_l44, I_l45, I_l48, I_l49, I_l57, I_l58, I_l60, I_l61, I_l62, I_l79, I_l80, I_l100, I_l120, I_l180, I_l200, I_l240, I_l300, I_l360, I_l361, I_l362, I_l363, I_l364, I_l365, I_l485, I_l605, I_l1999, I_l2000, I_eq, I_le, I_lt, I_toInt, cz_at, if_pos, if_neg]
          rw [at0_in q]
          exact obind (f10_has (b := 1) ⟨hg, q, by omega⟩ rm) rfl
      · refine ⟨I (hc p), cz hc, cz nc, cz pn, cz ls, I g, I (pgC (hgt c0 l0 c1 l1 L R (wdt w 0) (wdt w 1) h) (nts o0 o1 L R) ph g), I (Sm (emp c0 l0 c1 l1 L R (wdt w 0) (wdt w 1) h) g), I (pgC (hgt c0 l0 c1 l1 L R (wdt w 0) (wdt w 1) h) (nts o0 o1 L R) ph g), cz b19, cz b20, cz b21, cz b22, obind e0 ((if_neg (by decide)).trans (obind e1 ((if_neg (by decide)).trans ?_))), obind e3 ((if_pos (by decide)).trans (obind v5 ?_))⟩
        · refine (if_neg (by decide)).trans (obind v2 ?_)
          unfold pX9_group_j45
          simp (disch := omega) only [if_true, if_false, I_add, I_sub, I_mul, I_neg, I_ofNat, Option.bind_some, kIn, I_l0, I_l1, I_l2, I_l3, I_l4, I_l5, I_l6, I_l8, I_l9, I_l10, I_l11, I_l32, I_l40, I_l43, I_l44, I_l45, I_l48, I_l49, I_l57, I_l58, I_l60, I_l61, I_l62, I_l79, I_l80, I_l100, I_l120, I_l180, I_l200, I_l240, I_l300, I_l360, I_l361, I_l362, I_l363, I_l364, I_l365, I_l485, I_l605, I_l1999, I_l2000, I_eq, if_pos, if_neg]
          exact obind (f3_heightOf (by omega)) rfl
        · simp (disch := omega) only [if_true, if_false, I_add, I_sub, I_mul, I_neg, I_ofNat, Option.bind_some, kIn, I_l0, I_l1, I_l2, I_l3, I_l4, I_l5, I_l6, I_l8, I_l9, I_l10, I_l11, I_l32, I_l40, I_l43, I_l44, I_l45, I_l48, I_l49, I_l57, I_l58, I_l60, I_l61, I_l62, I_l79, I_l80, I_l100, I_l120, I_l180, I_l200, I_l240, I_l300, I_l360, I_l361, I_l362, I_l363, I_l364, I_l365, I_l485, I_l605, I_l1999, I_l2000, I_eq, I_le, I_lt, I_toInt, cz_at, if_pos, if_neg]
          rw [v6.1]
          exact obind (f10_heightOf q k0 k1 kM r0 r1 rm hd.1 hd.2 hh) rfl
      · refine ⟨I (pn p), cz hc, cz nc, cz pn, cz ls, I g, I (pgC (hgt c0 l0 c1 l1 L R (wdt w 0) (wdt w 1) h) (nts o0 o1 L R) ph g), I (Sm (emp c0 l0 c1 l1 L R (wdt w 0) (wdt w 1) h) g), I (pgC (hgt c0 l0 c1 l1 L R (wdt w 0) (wdt w 1) h) (nts o0 o1 L R) ph g), cz b19, cz b20, cz b21, cz b22, obind e0 ((if_neg (by decide)).trans (obind e1 ((if_neg (by decide)).trans ?_))), obind e3 ((if_pos (by decide)).trans (obind v5 ?_))⟩
        · refine (if_neg (by decide)).trans (obind v2 ?_)
          unfold pX9_group_j45
          simp (disch := omega) only [if_true, if_false, I_add, I_sub, I_mul, I_neg, I_ofNat, Option.bind_some, kIn, I_l0, I_l1, I_l2, I_l3, I_l4, I_l5, I_l6, I_l8, I_l9, I_l10, I_l11, I_l32, I_l40, I_l43, I_l44, I_l45, I_l48, I_l49, I_l57, I_l58, I_l60, I_l61, I_l62, I_l79, I_l80, I_l100, I_l120, I_l180, I_l200, I_l240, I_l300, I_l360, I_l361, I_l362, I_l363, I_l364, I_l365, I_l485, I_l605, I_l1999, I_l2000, I_eq, if_pos, if_neg]
          exact obind (f3_pageOf (by omega)) rfl
        · simp (disch := omega) only [if_true, if_false, I_add, I_sub, I_mul, I_neg, I_ofNat, Option.bind_some, kIn, I_l0, I_l1, I_l2, I_l3, I_l4, I_l5, I_l6, I_l8, I_l9, I_l10, I_l11, I_l32, I_l40, I_l43, I_l44, I_l45, I_l48, I_l49, I_l57, I_l58, I_l60, I_l61, I_l62, I_l79, I_l80, I_l100, I_l120, I_l180, I_l200, I_l240, I_l300, I_l360, I_l361, I_l362, I_l363, I_l364, I_l365, I_l485, I_l605, I_l1999, I_l2000, I_eq, I_le, I_lt, I_toInt, cz_at, if_pos, if_neg]
          rw [v6.2.2.1, v7.1]
      · refine ⟨I (ls p), cz hc, cz nc, cz pn, cz ls, I g, I (pgC (hgt c0 l0 c1 l1 L R (wdt w 0) (wdt w 1) h) (nts o0 o1 L R) ph g), I (Sm (emp c0 l0 c1 l1 L R (wdt w 0) (wdt w 1) h) g), I (pgC (hgt c0 l0 c1 l1 L R (wdt w 0) (wdt w 1) h) (nts o0 o1 L R) ph g), cz b19, cz b20, cz b21, cz b22, obind e0 ((if_neg (by decide)).trans (obind e1 ((if_neg (by decide)).trans ?_))), obind e3 ((if_pos (by decide)).trans (obind v5 ?_))⟩
        · refine (if_neg (by decide)).trans (obind v2 ?_)
          unfold pX9_group_j45
          simp (disch := omega) only [if_true, if_false, I_add, I_sub, I_mul, I_neg, I_ofNat, Option.bind_some, kIn, I_l0, I_l1, I_l2, I_l3, I_l4, I_l5, I_l6, I_l8, I_l9, I_l10, I_l11, I_l32, I_l40, I_l43, I_l44, I_l45, I_l48, I_l49, I_l57, I_l58, I_l60, I_l61, I_l62, I_l79, I_l80, I_l100, I_l120, I_l180, I_l200, I_l240, I_l300, I_l360, I_l361, I_l362, I_l363, I_l364, I_l365, I_l485, I_l605, I_l1999, I_l2000, I_eq, if_pos, if_neg]
          exact obind (f3_lineOf (by omega)) rfl
        · simp (disch := omega) only [if_true, if_false, I_add, I_sub, I_mul, I_neg, I_ofNat, Option.bind_some, kIn, I_l0, I_l1, I_l2, I_l3, I_l4, I_l5, I_l6, I_l8, I_l9, I_l10, I_l11, I_l32, I_l40, I_l43, I_l44, I_l45, I_l48, I_l49, I_l57, I_l58, I_l60, I_l61, I_l62, I_l79, I_l80, I_l100, I_l120, I_l180, I_l200, I_l240, I_l300, I_l360, I_l361, I_l362, I_l363, I_l364, I_l365, I_l485, I_l605, I_l1999, I_l2000, I_eq, I_le, I_lt, I_toInt, cz_at, if_pos, if_neg]
          rw [v6.2.2.2, v7.2]
          exact if_pos (by decide)
      · refine ⟨I (nc p), cz hc, cz nc, cz pn, cz ls, I g, I (pgC (hgt c0 l0 c1 l1 L R (wdt w 0) (wdt w 1) h) (nts o0 o1 L R) ph g), I (Sm (emp c0 l0 c1 l1 L R (wdt w 0) (wdt w 1) h) g), I (pgC (hgt c0 l0 c1 l1 L R (wdt w 0) (wdt w 1) h) (nts o0 o1 L R) ph g), cz b19, cz b20, cz b21, cz b22, obind e0 ((if_neg (by decide)).trans (obind e1 ((if_neg (by decide)).trans ?_))), obind e3 ((if_pos (by decide)).trans (obind v5 ?_))⟩
        · refine (if_neg (by decide)).trans (obind v2 ?_)
          unfold pX9_group_j45
          simp (disch := omega) only [if_true, if_false, I_add, I_sub, I_mul, I_neg, I_ofNat, Option.bind_some, kIn, I_l0, I_l1, I_l2, I_l3, I_l4, I_l5, I_l6, I_l8, I_l9, I_l10, I_l11, I_l32, I_l40, I_l43, I_l44, I_l45, I_l48, I_l49, I_l57, I_l58, I_l60, I_l61, I_l62, I_l79, I_l80, I_l100, I_l120, I_l180, I_l200, I_l240, I_l300, I_l360, I_l361, I_l362, I_l363, I_l364, I_l365, I_l485, I_l605, I_l1999, I_l2000, I_eq, if_pos, if_neg]
          exact obind (f3_notesOf (by omega)) rfl
        · simp (disch := omega) only [if_true, if_false, I_add, I_sub, I_mul, I_neg, I_ofNat, Option.bind_some, kIn, I_l0, I_l1, I_l2, I_l3, I_l4, I_l5, I_l6, I_l8, I_l9, I_l10, I_l11, I_l32, I_l40, I_l43, I_l44, I_l45, I_l48, I_l49, I_l57, I_l58, I_l60, I_l61, I_l62, I_l79, I_l80, I_l100, I_l120, I_l180, I_l200, I_l240, I_l300, I_l360, I_l361, I_l362, I_l363, I_l364, I_l365, I_l485, I_l605, I_l1999, I_l2000, I_eq, I_le, I_lt, I_toInt, cz_at, if_pos, if_neg]
          rw [v6.2.1]
          exact obind (f10_notesOf q k0 k1 kM r0 r1 rm) rfl
    · have e1 : pX9_isWithin (I y) (I 0) (I 8) = some (I 0) := by rw [f9_isWithin (by omega), if_neg q2]
      refine ⟨I (-2), cz f4, cz f5, cz f6, cz f7, x8, I f9, x10, I (pgC (hgt c0 l0 c1 l1 L R (wdt w 0) (wdt w 1) h) (nts o0 o1 L R) ph g), cz b19, cz b20, cz b21, cz b22, obind e0 ((if_neg (by decide)).trans (obind e1 (if_pos (by decide)))), obind e3 ((if_pos (by decide)).trans (obind v5 ?_))⟩
      simp (disch := omega) only [if_true, if_false, I_add, I_sub, I_mul, I_neg, I_ofNat, Option.bind_some, kIn, I_l0, I_l1, I_l2, I_l3, I_l4, I_l5, I_l6, I_l8, I_l9, I_l10, I_l11, I_l32, I_l40, I_l43, I_l44, I_l45, I_l48, I_l49, I_l57, I_l58, I_l60, I_l61, I_l62, I_l79, I_l80, I_l100, I_l120, I_l180, I_l200, I_l240, I_l300, I_l360, I_l361, I_l362, I_l363, I_l364, I_l365, I_l485, I_l605, I_l1999, I_l2000, I_eq, if_neg]
      refine if_neg (fun t => ?_)
      have t2 : I y = I 7 := t
      rw [I_eq (by omega)] at t2
      omega
  · have e0 := f1_hasF (n := g) (a := p) (by omega)
    have e3 : pX10_noGroup (cz W) (I p) = some (I 1) := by rw [f10_noGroup (by omega) rm.1, if_neg q]
    exact ⟨_, _, _, _, _, _, _, _, _, _, _, _, _, obind e0 (if_pos (by decide)), obind e3 (if_neg (by decide))⟩
end ASK6
