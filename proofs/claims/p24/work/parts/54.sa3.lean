-- acts: verses split and joined (printed by wip/p24/fun/mk53.py)
theorem s_split0 {x : Sg} {c0 l0 o0 : Int → Int} {n0 : Int} {c1 l1 o1 : Int → Int} {n1 : Int} {L R : Int → Int} {g k w0 w1 ph h : Int} (d : dX x c0 l0 o0 n0 c1 l1 o1 n1 L R g k w0 w1 ph h) {v u j : Int} (q : 0 ≤ v ∧ v < n0) (qx : 1 ≤ u ∧ u ≤ 1999) (qb : u < l0 v ∧ n0 < 60) (j0 : 0 ≤ j ∧ j < g) (j1 : Sm (sel 0 L R) j ≤ v) (j2 : v < Sm (sel 0 L R) (j + 1)) : ∃ (x' : Sg) (c2 l2 o2 L2 R2 : Int → Int), sSplitVerse x (I 0) (I v) (I u) = some (I (n0 + 1), x') ∧ dX x' c2 l2 o2 (n0 + 1) c1 l1 o1 n1 L2 R2 g (k5 k) w0 w1 ph h ∧ hTp x'.2.1 (k5 k) x.1 ∧ x'.2.2 = x.2.2 ∧ (∀ i, 0 ≤ i → i < n0 + 1 → c2 i = ins c0 v (c0 v) i) ∧ (∀ i, 0 ≤ i → i < n0 + 1 → l2 i = ins (up l0 v u) v (l0 v - u) i) ∧ (∀ i, 0 ≤ i → i < n0 + 1 → o2 i = ins o0 v 0 i) ∧ ∀ i, 0 ≤ i → i < g → L2 i = (if (0 : Int) = 0 then dlt L j 1 else L) i ∧ R2 i = (if (0 : Int) = 0 then R else dlt R j 1) i := by
  obtain ⟨⟨⟨v0, v1, v2, v3⟩, ⟨v4, v5, v6, v7⟩, v8, v9, v10⟩, ⟨a0, s0, s1, s2, s3, s4⟩, tx, nn, ⟨y0, y1, y2, y3⟩⟩ := x
  obtain ⟨e, ey, k0, k1, kM, hA, hw0, hw1, hph, hh⟩ := d
  simp only [Prod.mk.injEq] at e ey
  obtain ⟨⟨rfl, rfl, rfl, rfl⟩, ⟨rfl, rfl, rfl, rfl⟩, rfl, rfl, rfl⟩ := e
  obtain ⟨rfl, rfl, rfl, rfl⟩ := ey
  have hg := kM.1
  have b0 := k0.1
  have b1 := k1.1
  have hY := f9_isVerseY ⟨b0, b1⟩ (Or.inl ⟨rfl, q⟩)
  have hF : ∀ i, 0 ≤ i → i < g → 0 ≤ sel 0 L R i ∧ sel 0 L R i ≤ 1000 := fun i p z => by have := okM_S (b := 0) kM i p z; omega
  have hSn : Sm (sel 0 L R) g = n0 := kM.2.2.1
  obtain ⟨r, t0, t1, t2, t3, t4, hs, e1, e2, e3, e4⟩ := t_record (vL0 := cz c0) (vL1 := cz l0) (vL2 := cz o0) (vL3 := I n0) (vR0 := cz c1) (vR1 := cz l1) (vR2 := cz o1) (vR3 := I n1) (vM0 := cz L) (vM1 := cz R) (vM2 := I g) hA ⟨c0, l0, o0, n0, c1, l1, o1, n1, L, R, g, rfl, k0, k1, kM⟩
  have kl := (k0.2 v q.1 q.2).1
  have G9 := f1_groupOf (L := L) (R := R) (b := 0) ⟨hg, by omega, j0, by omega⟩ hF j1 j2
  obtain ⟨L2, R2, z1, z2⟩ := f1_resizeB (L := L) (R := R) (g := g) (a := j) (b := 0) (d := 1) ⟨hg, j0, by omega⟩
  have hc : ∀ i, 0 ≤ i → i < n0 + 1 → up (opn c0 60 (v + 1) n0) (v + 1) (c0 v) i = ins c0 v (c0 v) i := fun i p z => ins_class (by omega) ⟨p, z⟩
  have hl2 : ∀ i, 0 ≤ i → i < n0 + 1 → up (opn (up l0 v u) 60 (v + 1) n0) (v + 1) (l0 v - u) i = ins (up l0 v u) v (l0 v - u) i := fun i p z => ins_class (by omega) ⟨p, z⟩
  have ho : ∀ i, 0 ≤ i → i < n0 + 1 → up (opn (up o0 v (o0 v)) 60 (v + 1) n0) (v + 1) 0 i = ins o0 v 0 i := fun i p z => by
    rw [ins_class (by omega) ⟨p, z⟩]
    have eu : ∀ i, up o0 v (o0 v) i = o0 i := fun i => by
      by_cases zz : i = v
      · rw [up_at zz, zz]
      · rw [up_ne zz]
    unfold ins
    rw [eu, eu]
  have hkd := hF j j0.1 j0.2
  have hkm := kM.2.1 j j0.1 j0.2
  have E : pX9_splitVerse (cz c0) (cz l0) (cz o0) (I n0) (cz c1) (cz l1) (cz o1) (I n1) (cz L) (cz R) (I g) a0 s0 s1 s2 s3 s4 (I 0) (I v) (I u) = some (I (n0 + 1), cz (up (opn c0 60 (v + 1) n0) (v + 1) (c0 v)), cz (up (opn (up l0 v u) 60 (v + 1) n0) (v + 1) (l0 v - u)), cz (up (opn (up o0 v (o0 v)) 60 (v + 1) n0) (v + 1) 0), I (n0 + 1), cz c1, cz l1, cz o1, I n1, cz L2, cz R2, I (k5 k), r, t0, t1, t2, t3, t4) := by
    unfold pX9_splitVerse
    simp only [if_true, if_false, I_add, I_sub, I_mul, I_neg, I_ofNat, Option.bind_some, kIn, I_l0, I_l1, I_l2, I_l3, I_l4, I_l5, I_l6, I_l7, I_l8, I_l9, I_l10, I_l11, I_l12, I_l13, I_l40, I_l43, I_l44, I_l45, I_l48, I_l57, I_l58, I_l60, I_l61, I_l62, I_l79, I_l80, I_l100, I_l101, I_l120, I_l200, I_l201, I_l1999, I_l2000, I_l2001]
    rw [hY, f9_isWithin (by omega), if_pos qx, f0_lettersOf (n := n0) (by omega), at0_in q, e1, G9, f0_splitBehind (n := n0) (by omega)]
    simp (disch := omega) only [if_true, if_false, I_add, I_sub, I_mul, I_neg, I_ofNat, Option.bind_some, kIn, I_l0, I_l1, I_l2, I_l3, I_l4, I_l5, I_l6, I_l7, I_l8, I_l9, I_l10, I_l11, I_l12, I_l13, I_l40, I_l43, I_l44, I_l45, I_l48, I_l57, I_l58, I_l60, I_l61, I_l62, I_l79, I_l80, I_l100, I_l101, I_l120, I_l200, I_l201, I_l1999, I_l2000, I_l2001, I_eq, I_lt, if_neg, if_pos]
    rw [z2]
    rfl
  exact ⟨(((cz (up (opn c0 60 (v + 1) n0) (v + 1) (c0 v)), cz (up (opn (up l0 v u) 60 (v + 1) n0) (v + 1) (l0 v - u)), cz (up (opn (up o0 v (o0 v)) 60 (v + 1) n0) (v + 1) 0), I (n0 + 1)), (cz c1, cz l1, cz o1, I n1), (cz L2, cz R2, I g)), hs, tx, nn, (I w0, I w1, I ph, I h)), _, _, _, L2, R2, obind E (obind e2 rfl), ⟨rfl, rfl, okB_ins k0 (by omega) (by omega) hc hl2 ho, k1, (okM_dlt (b := 0) (d := 1) (m2 := n0 + 1) (n2 := n1) kM j0 rfl rfl (by omega) (by omega)).val z1, e4, hw0, hw1, hph, hh⟩, e3, rfl, hc, hl2, ho, z1⟩
theorem s_splitB0 {x : Sg} {c0 l0 o0 : Int → Int} {n0 : Int} {c1 l1 o1 : Int → Int} {n1 : Int} {L R : Int → Int} {g k w0 w1 ph h : Int} (d : dX x c0 l0 o0 n0 c1 l1 o1 n1 L R g k w0 w1 ph h) {v u : Int} (q : 0 ≤ v ∧ v < n0) (qx : 1 ≤ u ∧ u ≤ 1999) (qb : l0 v ≤ u ∨ n0 = 60) : sSplitVerse x (I 0) (I v) (I u) = some (I (if l0 v ≤ u then -4 else -3), x) := by
  obtain ⟨⟨⟨v0, v1, v2, v3⟩, ⟨v4, v5, v6, v7⟩, v8, v9, v10⟩, ⟨a0, s0, s1, s2, s3, s4⟩, tx, nn, ⟨y0, y1, y2, y3⟩⟩ := x
  obtain ⟨e, ey, k0, k1, kM, hA, hw0, hw1, hph, hh⟩ := d
  simp only [Prod.mk.injEq] at e ey
  obtain ⟨⟨rfl, rfl, rfl, rfl⟩, ⟨rfl, rfl, rfl, rfl⟩, rfl, rfl, rfl⟩ := e
  obtain ⟨rfl, rfl, rfl, rfl⟩ := ey
  have hg := kM.1
  have b0 := k0.1
  have b1 := k1.1
  have hA0 := hA
  obtain ⟨hk0, hk, -⟩ := hA
  have hk1 : a0 = I k := hk0
  subst hk1
  have eN : nH (I k) 0 s0 s1 s2 s3 s4 = some (I k, s0, s1, s2, s3, s4) := rfl
  have hY := f9_isVerseY ⟨b0, b1⟩ (Or.inl ⟨rfl, q⟩)
  have kl := (k0.2 v q.1 q.2).1
  have E : pX9_splitVerse (cz c0) (cz l0) (cz o0) (I n0) (cz c1) (cz l1) (cz o1) (I n1) (cz L) (cz R) (I g) (I k) s0 s1 s2 s3 s4 (I 0) (I v) (I u) = some (I (if l0 v ≤ u then -4 else -3), cz c0, cz l0, cz o0, I n0, cz c1, cz l1, cz o1, I n1, cz L, cz R, I k, 0, s0, s1, s2, s3, s4) := by
    unfold pX9_splitVerse
    simp only [if_true, if_false, I_add, I_sub, I_mul, I_neg, I_ofNat, Option.bind_some, kIn, I_l0, I_l1, I_l2, I_l3, I_l4, I_l5, I_l6, I_l7, I_l8, I_l9, I_l10, I_l11, I_l12, I_l13, I_l40, I_l43, I_l44, I_l45, I_l48, I_l57, I_l58, I_l60, I_l61, I_l62, I_l79, I_l80, I_l100, I_l101, I_l120, I_l200, I_l201, I_l1999, I_l2000, I_l2001]
    rw [hY, f9_isWithin (by omega), if_pos qx, f0_lettersOf (n := n0) (by omega), at0_in q]
    simp (disch := omega) only [if_true, if_false, I_add, I_sub, I_mul, I_neg, I_ofNat, Option.bind_some, kIn, I_l0, I_l1, I_l2, I_l3, I_l4, I_l5, I_l6, I_l7, I_l8, I_l9, I_l10, I_l11, I_l12, I_l13, I_l40, I_l43, I_l44, I_l45, I_l48, I_l57, I_l58, I_l60, I_l61, I_l62, I_l79, I_l80, I_l100, I_l101, I_l120, I_l200, I_l201, I_l1999, I_l2000, I_l2001, I_eq, I_lt, if_neg, if_true]
    by_cases z : l0 v ≤ u
    · rw [if_pos z, if_neg (by omega)]
    · rw [if_neg z, if_pos (by omega)]
  exact obind E (obind eN rfl)
theorem s_split1 {x : Sg} {c0 l0 o0 : Int → Int} {n0 : Int} {c1 l1 o1 : Int → Int} {n1 : Int} {L R : Int → Int} {g k w0 w1 ph h : Int} (d : dX x c0 l0 o0 n0 c1 l1 o1 n1 L R g k w0 w1 ph h) {v u j : Int} (q : 0 ≤ v ∧ v < n1) (qx : 1 ≤ u ∧ u ≤ 1999) (qb : u < l1 v ∧ n1 < 60) (j0 : 0 ≤ j ∧ j < g) (j1 : Sm (sel 1 L R) j ≤ v) (j2 : v < Sm (sel 1 L R) (j + 1)) : ∃ (x' : Sg) (c2 l2 o2 L2 R2 : Int → Int), sSplitVerse x (I 1) (I v) (I u) = some (I (n1 + 1), x') ∧ dX x' c0 l0 o0 n0 c2 l2 o2 (n1 + 1) L2 R2 g (k5 k) w0 w1 ph h ∧ hTp x'.2.1 (k5 k) x.1 ∧ x'.2.2 = x.2.2 ∧ (∀ i, 0 ≤ i → i < n1 + 1 → c2 i = ins c1 v (c1 v) i) ∧ (∀ i, 0 ≤ i → i < n1 + 1 → l2 i = ins (up l1 v u) v (l1 v - u) i) ∧ (∀ i, 0 ≤ i → i < n1 + 1 → o2 i = ins o1 v 0 i) ∧ ∀ i, 0 ≤ i → i < g → L2 i = (if (1 : Int) = 0 then dlt L j 1 else L) i ∧ R2 i = (if (1 : Int) = 0 then R else dlt R j 1) i := by
  obtain ⟨⟨⟨v0, v1, v2, v3⟩, ⟨v4, v5, v6, v7⟩, v8, v9, v10⟩, ⟨a0, s0, s1, s2, s3, s4⟩, tx, nn, ⟨y0, y1, y2, y3⟩⟩ := x
  obtain ⟨e, ey, k0, k1, kM, hA, hw0, hw1, hph, hh⟩ := d
  simp only [Prod.mk.injEq] at e ey
  obtain ⟨⟨rfl, rfl, rfl, rfl⟩, ⟨rfl, rfl, rfl, rfl⟩, rfl, rfl, rfl⟩ := e
  obtain ⟨rfl, rfl, rfl, rfl⟩ := ey
  have hg := kM.1
  have b0 := k0.1
  have b1 := k1.1
  have hY := f9_isVerseY ⟨b0, b1⟩ (Or.inr ⟨rfl, q⟩)
  have hF : ∀ i, 0 ≤ i → i < g → 0 ≤ sel 1 L R i ∧ sel 1 L R i ≤ 1000 := fun i p z => by have := okM_S (b := 1) kM i p z; omega
  have hSn : Sm (sel 1 L R) g = n1 := kM.2.2.2
  obtain ⟨r, t0, t1, t2, t3, t4, hs, e1, e2, e3, e4⟩ := t_record (vL0 := cz c0) (vL1 := cz l0) (vL2 := cz o0) (vL3 := I n0) (vR0 := cz c1) (vR1 := cz l1) (vR2 := cz o1) (vR3 := I n1) (vM0 := cz L) (vM1 := cz R) (vM2 := I g) hA ⟨c0, l0, o0, n0, c1, l1, o1, n1, L, R, g, rfl, k0, k1, kM⟩
  have kl := (k1.2 v q.1 q.2).1
  have G9 := f1_groupOf (L := L) (R := R) (b := 1) ⟨hg, by omega, j0, by omega⟩ hF j1 j2
  obtain ⟨L2, R2, z1, z2⟩ := f1_resizeB (L := L) (R := R) (g := g) (a := j) (b := 1) (d := 1) ⟨hg, j0, by omega⟩
  have hc : ∀ i, 0 ≤ i → i < n1 + 1 → up (opn c1 60 (v + 1) n1) (v + 1) (c1 v) i = ins c1 v (c1 v) i := fun i p z => ins_class (by omega) ⟨p, z⟩
  have hl2 : ∀ i, 0 ≤ i → i < n1 + 1 → up (opn (up l1 v u) 60 (v + 1) n1) (v + 1) (l1 v - u) i = ins (up l1 v u) v (l1 v - u) i := fun i p z => ins_class (by omega) ⟨p, z⟩
  have ho : ∀ i, 0 ≤ i → i < n1 + 1 → up (opn (up o1 v (o1 v)) 60 (v + 1) n1) (v + 1) 0 i = ins o1 v 0 i := fun i p z => by
    rw [ins_class (by omega) ⟨p, z⟩]
    have eu : ∀ i, up o1 v (o1 v) i = o1 i := fun i => by
      by_cases zz : i = v
      · rw [up_at zz, zz]
      · rw [up_ne zz]
    unfold ins
    rw [eu, eu]
  have hkd := hF j j0.1 j0.2
  have hkm := kM.2.1 j j0.1 j0.2
  have E : pX9_splitVerse (cz c0) (cz l0) (cz o0) (I n0) (cz c1) (cz l1) (cz o1) (I n1) (cz L) (cz R) (I g) a0 s0 s1 s2 s3 s4 (I 1) (I v) (I u) = some (I (n1 + 1), cz c0, cz l0, cz o0, I n0, cz (up (opn c1 60 (v + 1) n1) (v + 1) (c1 v)), cz (up (opn (up l1 v u) 60 (v + 1) n1) (v + 1) (l1 v - u)), cz (up (opn (up o1 v (o1 v)) 60 (v + 1) n1) (v + 1) 0), I (n1 + 1), cz L2, cz R2, I (k5 k), r, t0, t1, t2, t3, t4) := by
    unfold pX9_splitVerse
    simp only [if_true, if_false, I_add, I_sub, I_mul, I_neg, I_ofNat, Option.bind_some, kIn, I_l0, I_l1, I_l2, I_l3, I_l4, I_l5, I_l6, I_l7, I_l8, I_l9, I_l10, I_l11, I_l12, I_l13, I_l40, I_l43, I_l44, I_l45, I_l48, I_l57, I_l58, I_l60, I_l61, I_l62, I_l79, I_l80, I_l100, I_l101, I_l120, I_l200, I_l201, I_l1999, I_l2000, I_l2001]
    rw [hY, f9_isWithin (by omega), if_pos qx, f0_lettersOf (n := n1) (by omega), at0_in q, e1, G9, f0_splitBehind (n := n1) (by omega)]
    simp (disch := omega) only [if_true, if_false, I_add, I_sub, I_mul, I_neg, I_ofNat, Option.bind_some, kIn, I_l0, I_l1, I_l2, I_l3, I_l4, I_l5, I_l6, I_l7, I_l8, I_l9, I_l10, I_l11, I_l12, I_l13, I_l40, I_l43, I_l44, I_l45, I_l48, I_l57, I_l58, I_l60, I_l61, I_l62, I_l79, I_l80, I_l100, I_l101, I_l120, I_l200, I_l201, I_l1999, I_l2000, I_l2001, I_eq, I_lt, if_neg, if_pos]
    rw [z2]
    rfl
  exact ⟨(((cz c0, cz l0, cz o0, I n0), (cz (up (opn c1 60 (v + 1) n1) (v + 1) (c1 v)), cz (up (opn (up l1 v u) 60 (v + 1) n1) (v + 1) (l1 v - u)), cz (up (opn (up o1 v (o1 v)) 60 (v + 1) n1) (v + 1) 0), I (n1 + 1)), (cz L2, cz R2, I g)), hs, tx, nn, (I w0, I w1, I ph, I h)), _, _, _, L2, R2, obind E (obind e2 rfl), ⟨rfl, rfl, k0, okB_ins k1 (by omega) (by omega) hc hl2 ho, (okM_dlt (b := 1) (d := 1) (m2 := n0) (n2 := n1 + 1) kM j0 rfl rfl (by omega) (by omega)).val z1, e4, hw0, hw1, hph, hh⟩, e3, rfl, hc, hl2, ho, z1⟩
theorem s_splitB1 {x : Sg} {c0 l0 o0 : Int → Int} {n0 : Int} {c1 l1 o1 : Int → Int} {n1 : Int} {L R : Int → Int} {g k w0 w1 ph h : Int} (d : dX x c0 l0 o0 n0 c1 l1 o1 n1 L R g k w0 w1 ph h) {v u : Int} (q : 0 ≤ v ∧ v < n1) (qx : 1 ≤ u ∧ u ≤ 1999) (qb : l1 v ≤ u ∨ n1 = 60) : sSplitVerse x (I 1) (I v) (I u) = some (I (if l1 v ≤ u then -4 else -3), x) := by
  obtain ⟨⟨⟨v0, v1, v2, v3⟩, ⟨v4, v5, v6, v7⟩, v8, v9, v10⟩, ⟨a0, s0, s1, s2, s3, s4⟩, tx, nn, ⟨y0, y1, y2, y3⟩⟩ := x
  obtain ⟨e, ey, k0, k1, kM, hA, hw0, hw1, hph, hh⟩ := d
  simp only [Prod.mk.injEq] at e ey
  obtain ⟨⟨rfl, rfl, rfl, rfl⟩, ⟨rfl, rfl, rfl, rfl⟩, rfl, rfl, rfl⟩ := e
  obtain ⟨rfl, rfl, rfl, rfl⟩ := ey
  have hg := kM.1
  have b0 := k0.1
  have b1 := k1.1
  have hA0 := hA
  obtain ⟨hk0, hk, -⟩ := hA
  have hk1 : a0 = I k := hk0
  subst hk1
  have eN : nH (I k) 0 s0 s1 s2 s3 s4 = some (I k, s0, s1, s2, s3, s4) := rfl
  have hY := f9_isVerseY ⟨b0, b1⟩ (Or.inr ⟨rfl, q⟩)
  have kl := (k1.2 v q.1 q.2).1
  have E : pX9_splitVerse (cz c0) (cz l0) (cz o0) (I n0) (cz c1) (cz l1) (cz o1) (I n1) (cz L) (cz R) (I g) (I k) s0 s1 s2 s3 s4 (I 1) (I v) (I u) = some (I (if l1 v ≤ u then -4 else -3), cz c0, cz l0, cz o0, I n0, cz c1, cz l1, cz o1, I n1, cz L, cz R, I k, 0, s0, s1, s2, s3, s4) := by
    unfold pX9_splitVerse
    simp only [if_true, if_false, I_add, I_sub, I_mul, I_neg, I_ofNat, Option.bind_some, kIn, I_l0, I_l1, I_l2, I_l3, I_l4, I_l5, I_l6, I_l7, I_l8, I_l9, I_l10, I_l11, I_l12, I_l13, I_l40, I_l43, I_l44, I_l45, I_l48, I_l57, I_l58, I_l60, I_l61, I_l62, I_l79, I_l80, I_l100, I_l101, I_l120, I_l200, I_l201, I_l1999, I_l2000, I_l2001]
    rw [hY, f9_isWithin (by omega), if_pos qx, f0_lettersOf (n := n1) (by omega), at0_in q]
    simp (disch := omega) only [if_true, if_false, I_add, I_sub, I_mul, I_neg, I_ofNat, Option.bind_some, kIn, I_l0, I_l1, I_l2, I_l3, I_l4, I_l5, I_l6, I_l7, I_l8, I_l9, I_l10, I_l11, I_l12, I_l13, I_l40, I_l43, I_l44, I_l45, I_l48, I_l57, I_l58, I_l60, I_l61, I_l62, I_l79, I_l80, I_l100, I_l101, I_l120, I_l200, I_l201, I_l1999, I_l2000, I_l2001, I_eq, I_lt, if_neg, if_true]
    by_cases z : l1 v ≤ u
    · rw [if_pos z, if_neg (by omega)]
    · rw [if_neg z, if_pos (by omega)]
  exact obind E (obind eN rfl)
theorem sE_split2 {x : Sg} {c0 l0 o0 : Int → Int} {n0 : Int} {c1 l1 o1 : Int → Int} {n1 : Int} {L R : Int → Int} {g k w0 w1 ph h : Int} (d : dX x c0 l0 o0 n0 c1 l1 o1 n1 L R g k w0 w1 ph h) {b v u : Int} (q : (b = 0 ∧ 0 ≤ v ∧ v < n0) ∨ (b = 1 ∧ 0 ≤ v ∧ v < n1)) (hr : -2147483648 ≤ u ∧ u ≤ 2147483647) (qx : ¬ (1 ≤ u ∧ u ≤ 1999)) : sSplitVerse x (I b) (I v) (I u) = some (I (-2), x) := by
  obtain ⟨⟨⟨v0, v1, v2, v3⟩, ⟨v4, v5, v6, v7⟩, v8, v9, v10⟩, ⟨a0, s0, s1, s2, s3, s4⟩, tx, nn, ⟨y0, y1, y2, y3⟩⟩ := x
  obtain ⟨e, ey, k0, k1, kM, hA, hw0, hw1, hph, hh⟩ := d
  simp only [Prod.mk.injEq] at e ey
  obtain ⟨⟨rfl, rfl, rfl, rfl⟩, ⟨rfl, rfl, rfl, rfl⟩, rfl, rfl, rfl⟩ := e
  obtain ⟨rfl, rfl, rfl, rfl⟩ := ey
  have hg := kM.1
  have b0 := k0.1
  have b1 := k1.1
  have hA0 := hA
  obtain ⟨hk0, hk, -⟩ := hA
  have hk1 : a0 = I k := hk0
  subst hk1
  have eN : nH (I k) 0 s0 s1 s2 s3 s4 = some (I k, s0, s1, s2, s3, s4) := rfl
  have hY := f9_isVerseY ⟨b0, b1⟩ q
  have E : pX9_splitVerse (cz c0) (cz l0) (cz o0) (I n0) (cz c1) (cz l1) (cz o1) (I n1) (cz L) (cz R) (I g) (I k) s0 s1 s2 s3 s4 (I b) (I v) (I u) = some (I (-2), cz c0, cz l0, cz o0, I n0, cz c1, cz l1, cz o1, I n1, cz L, cz R, I k, 0, s0, s1, s2, s3, s4) := by
    unfold pX9_splitVerse
    simp only [if_true, if_false, I_add, I_sub, I_mul, I_neg, I_ofNat, Option.bind_some, kIn, I_l0, I_l1, I_l2, I_l3, I_l4, I_l5, I_l6, I_l7, I_l8, I_l9, I_l10, I_l11, I_l12, I_l13, I_l40, I_l43, I_l44, I_l45, I_l48, I_l57, I_l58, I_l60, I_l61, I_l62, I_l79, I_l80, I_l100, I_l101, I_l120, I_l200, I_l201, I_l1999, I_l2000, I_l2001]
    rw [hY, f9_isWithin (by omega), if_neg qx]
    simp (disch := omega) only [if_true, if_false, I_add, I_sub, I_mul, I_neg, I_ofNat, Option.bind_some, kIn, I_l0, I_l1, I_l2, I_l3, I_l4, I_l5, I_l6, I_l7, I_l8, I_l9, I_l10, I_l11, I_l12, I_l13, I_l40, I_l43, I_l44, I_l45, I_l48, I_l57, I_l58, I_l60, I_l61, I_l62, I_l79, I_l80, I_l100, I_l101, I_l120, I_l200, I_l201, I_l1999, I_l2000, I_l2001, I_eq, if_neg, if_true]
  exact obind E (obind eN rfl)
theorem sE_split1 {x : Sg} {c0 l0 o0 : Int → Int} {n0 : Int} {c1 l1 o1 : Int → Int} {n1 : Int} {L R : Int → Int} {g k w0 w1 ph h : Int} (d : dX x c0 l0 o0 n0 c1 l1 o1 n1 L R g k w0 w1 ph h) {b v : Int} {i3 : Int32} (q : ¬ ((b = 0 ∧ 0 ≤ v ∧ v < n0) ∨ (b = 1 ∧ 0 ≤ v ∧ v < n1))) (hr : (-2147483648 ≤ b ∧ b ≤ 2147483647) ∧ -2147483648 ≤ v ∧ v ≤ 2147483647) : sSplitVerse x (I b) (I v) i3 = some (I (-1), x) := by
  obtain ⟨⟨⟨v0, v1, v2, v3⟩, ⟨v4, v5, v6, v7⟩, v8, v9, v10⟩, ⟨a0, s0, s1, s2, s3, s4⟩, tx, nn, ⟨y0, y1, y2, y3⟩⟩ := x
  obtain ⟨e, ey, k0, k1, kM, hA, hw0, hw1, hph, hh⟩ := d
  simp only [Prod.mk.injEq] at e ey
  obtain ⟨⟨rfl, rfl, rfl, rfl⟩, ⟨rfl, rfl, rfl, rfl⟩, rfl, rfl, rfl⟩ := e
  obtain ⟨rfl, rfl, rfl, rfl⟩ := ey
  have hg := kM.1
  have b0 := k0.1
  have b1 := k1.1
  have hA0 := hA
  obtain ⟨hk0, hk, -⟩ := hA
  have hk1 : a0 = I k := hk0
  subst hk1
  have eN : nH (I k) 0 s0 s1 s2 s3 s4 = some (I k, s0, s1, s2, s3, s4) := rfl
  have E : pX9_splitVerse (cz c0) (cz l0) (cz o0) (I n0) (cz c1) (cz l1) (cz o1) (I n1) (cz L) (cz R) (I g) (I k) s0 s1 s2 s3 s4 (I b) (I v) i3 = some (I (-1), cz c0, cz l0, cz o0, I n0, cz c1, cz l1, cz o1, I n1, cz L, cz R, I k, 0, s0, s1, s2, s3, s4) := by
    unfold pX9_splitVerse
    simp only [if_true, if_false, I_add, I_sub, I_mul, I_neg, I_ofNat, Option.bind_some, kIn, I_l0, I_l1, I_l2, I_l3, I_l4, I_l5, I_l6, I_l7, I_l8, I_l9, I_l10, I_l11, I_l12, I_l13, I_l40, I_l43, I_l44, I_l45, I_l48, I_l57, I_l58, I_l60, I_l61, I_l62, I_l79, I_l80, I_l100, I_l101, I_l120, I_l200, I_l201, I_l1999, I_l2000, I_l2001]
    rw [f9_isVerseN (by omega) q]
    simp (disch := omega) only [if_true, if_false, I_add, I_sub, I_mul, I_neg, I_ofNat, Option.bind_some, kIn, I_l0, I_l1, I_l2, I_l3, I_l4, I_l5, I_l6, I_l7, I_l8, I_l9, I_l10, I_l11, I_l12, I_l13, I_l40, I_l43, I_l44, I_l45, I_l48, I_l57, I_l58, I_l60, I_l61, I_l62, I_l79, I_l80, I_l100, I_l101, I_l120, I_l200, I_l201, I_l1999, I_l2000, I_l2001, I_eq, if_pos]
  exact obind E (obind eN rfl)
theorem s_join0 {x : Sg} {c0 l0 o0 : Int → Int} {n0 : Int} {c1 l1 o1 : Int → Int} {n1 : Int} {L R : Int → Int} {g k w0 w1 ph h : Int} (d : dX x c0 l0 o0 n0 c1 l1 o1 n1 L R g k w0 w1 ph h) {v j w : Int} (q : 0 ≤ v ∧ v + 1 < n0) (he : c0 v = c0 (v + 1)) (j0 : 0 ≤ j ∧ j < g) (j1 : Sm (sel 0 L R) j ≤ v) (j2 : v < Sm (sel 0 L R) (j + 1)) (q0 : 0 ≤ w ∧ w < g) (q1 : Sm (sel 0 L R) w ≤ v + 1) (q2 : v + 1 < Sm (sel 0 L R) (w + 1)) : ∃ (x' : Sg) (c2 l2 o2 L3 R3 : Int → Int), sJoinVerses x (I 0) (I v) = some (I (n0 - 1), x') ∧ dX x' c2 l2 o2 (n0 - 1) c1 l1 o1 n1 L3 R3 (g - (w - j)) (k5 k) w0 w1 ph h ∧ hTp x'.2.1 (k5 k) x.1 ∧ x'.2.2 = x.2.2 ∧ (∀ i, 0 ≤ i → i < n0 - 1 → c2 i = rmv c0 v i) ∧ (∀ i, 0 ≤ i → i < n0 - 1 → l2 i = rmv (up l0 v (if 2000 < l0 v + l0 (v + 1) then 2000 else l0 v + l0 (v + 1))) v i) ∧ (∀ i, 0 ≤ i → i < n0 - 1 → o2 i = rmv (up o0 v (if 10 < o0 v + o0 (v + 1) then 10 else o0 v + o0 (v + 1))) v i) ∧ ∀ i, 0 ≤ i → i < g - (w - j) → L3 i = (if (0 : Int) = 0 then dlt (mrg L j w) j (-1) else mrg L j w) i ∧ R3 i = (if (0 : Int) = 0 then mrg R j w else dlt (mrg R j w) j (-1)) i := by
  obtain ⟨⟨⟨v0, v1, v2, v3⟩, ⟨v4, v5, v6, v7⟩, v8, v9, v10⟩, ⟨a0, s0, s1, s2, s3, s4⟩, tx, nn, ⟨y0, y1, y2, y3⟩⟩ := x
  obtain ⟨e, ey, k0, k1, kM, hA, hw0, hw1, hph, hh⟩ := d
  simp only [Prod.mk.injEq] at e ey
  obtain ⟨⟨rfl, rfl, rfl, rfl⟩, ⟨rfl, rfl, rfl, rfl⟩, rfl, rfl, rfl⟩ := e
  obtain ⟨rfl, rfl, rfl, rfl⟩ := ey
  have hg := kM.1
  have b0 := k0.1
  have b1 := k1.1
  have hY := f9_isVerseY ⟨b0, b1⟩ (Or.inl ⟨rfl, q.1, by omega⟩)
  have kv := k0.2 v q.1 (by omega)
  have kv1 := k0.2 (v + 1) (by omega) (by omega)
  obtain ⟨r, t0, t1, t2, t3, t4, hs, e1, e2, e3, e4⟩ := t_record (vL0 := cz c0) (vL1 := cz l0) (vL2 := cz o0) (vL3 := I n0) (vR0 := cz c1) (vR1 := cz l1) (vR2 := cz o1) (vR3 := I n1) (vM0 := cz L) (vM1 := cz R) (vM2 := I g) hA ⟨c0, l0, o0, n0, c1, l1, o1, n1, L, R, g, rfl, k0, k1, kM⟩
  have hF : ∀ i, 0 ≤ i → i < g → 0 ≤ sel 0 L R i ∧ sel 0 L R i ≤ 1000 := fun i p z => by have := okM_S (b := 0) kM i p z; omega
  have hSn : Sm (sel 0 L R) g = n0 := kM.2.2.1
  have jw : j ≤ w := grp_mono (F := sel 0 L R) (fun i p z => (hF i p z).1) j0 q0 j1 q2 (by omega)
  have G9 := f1_groupOf (L := L) (R := R) (b := 0) ⟨hg, by omega, j0, by omega⟩ hF j1 j2
  have G9w := f1_groupOf (L := L) (R := R) (b := 0) ⟨hg, by omega, q0, by omega⟩ hF q1 q2
  obtain ⟨L2, R2, z0, z1⟩ := f1_mergeM (L := L) (R := R) (g := g) (a := j) (c := w) (by omega)
  obtain ⟨L3, R3, z2, z4⟩ := f1_resizeB (L := L2) (R := R2) (g := g - (w - j)) (a := j) (b := 0) (d := -1) (by omega)
  have z3 : ∀ i, 0 ≤ i → i < g - (w - j) → L3 i = (if (0 : Int) = 0 then dlt (mrg L j w) j (-1) else mrg L j w) i ∧ R3 i = (if (0 : Int) = 0 then mrg R j w else dlt (mrg R j w) j (-1)) i := fun i p z => by
    have h5 := z2 i p z
    have h6 := z0 i p z
    rw [h5.1, h5.2]
    unfold dlt
    exact ⟨congrArg (fun t => if i = j then t + -1 else t) h6.1, h6.2⟩
  have hmm : sel 0 (mrg L j w) (mrg R j w) j = Sm (sel 0 L R) (w + 1) - Sm (sel 0 L R) j := by
    show mrg (sel 0 L R) j w j = _
    unfold mrg
    rw [if_neg (by omega), if_pos rfl]
  have hMk := okM_mrg kM ⟨b0.2, b1.2⟩ ⟨j0.1, jw, q0.2⟩
  have hkm := hMk.2.1 j j0.1 (by omega)
  have hse : sel 0 (mrg L j w) (mrg R j w) j = mrg L j w j := rfl
  have hM := (okM_dlt (b := 0) (d := -1) (m2 := n0 - 1) (n2 := n1) hMk ⟨j0.1, by omega⟩ rfl rfl (by omega) (by omega)).val z3
  have hc : ∀ i, 0 ≤ i → i < n0 - 1 → cls c0 60 (v + 1) 1 n0 i = rmv c0 v i := fun i p z => rmv_class (by omega) ⟨p, z⟩
  have hl2 : ∀ i, 0 ≤ i → i < n0 - 1 → cls (up l0 v (if 2000 < l0 v + l0 (v + 1) then 2000 else l0 v + l0 (v + 1))) 60 (v + 1) 1 n0 i = rmv (up l0 v (if 2000 < l0 v + l0 (v + 1) then 2000 else l0 v + l0 (v + 1))) v i := fun i p z => rmv_class (by omega) ⟨p, z⟩
  have ho : ∀ i, 0 ≤ i → i < n0 - 1 → cls (up o0 v (if 10 < o0 v + o0 (v + 1) then 10 else o0 v + o0 (v + 1))) 60 (v + 1) 1 n0 i = rmv (up o0 v (if 10 < o0 v + o0 (v + 1) then 10 else o0 v + o0 (v + 1))) v i := fun i p z => rmv_class (by omega) ⟨p, z⟩
  have ok := okB_rmv (x := (if 2000 < l0 v + l0 (v + 1) then 2000 else l0 v + l0 (v + 1))) (y := (if 10 < o0 v + o0 (v + 1) then 10 else o0 v + o0 (v + 1))) k0 (by omega) (by split <;> omega) (by split <;> omega) he hc hl2 ho
  have E : pX9_joinVerses (cz c0) (cz l0) (cz o0) (I n0) (cz c1) (cz l1) (cz o1) (I n1) (cz L) (cz R) (I g) a0 s0 s1 s2 s3 s4 (I 0) (I v) = some (I (n0 - 1), cz (cls c0 60 (v + 1) 1 n0), cz (cls (up l0 v (if 2000 < l0 v + l0 (v + 1) then 2000 else l0 v + l0 (v + 1))) 60 (v + 1) 1 n0), cz (cls (up o0 v (if 10 < o0 v + o0 (v + 1) then 10 else o0 v + o0 (v + 1))) 60 (v + 1) 1 n0), I (n0 - 1), cz c1, cz l1, cz o1, I n1, cz L3, cz R3, I (g - (w - j)), I (k5 k), r, t0, t1, t2, t3, t4) := by
    unfold pX9_joinVerses
    simp only [if_true, if_false, I_add, I_sub, I_mul, I_neg, I_ofNat, Option.bind_some, kIn, I_l0, I_l1, I_l2, I_l3, I_l4, I_l5, I_l6, I_l7, I_l8, I_l9, I_l10, I_l11, I_l12, I_l13, I_l40, I_l43, I_l44, I_l45, I_l48, I_l57, I_l58, I_l60, I_l61, I_l62, I_l79, I_l80, I_l100, I_l101, I_l120, I_l200, I_l201, I_l1999, I_l2000, I_l2001]
    rw [hY, f0_chapterOf (n := n0) (by omega), f0_chapterOf (n := n0) (by omega), at0_in (a := v) (by omega), at0_in (a := v + 1) (by omega), ← he]
    simp (disch := omega) only [if_true, if_false, I_add, I_sub, I_mul, I_neg, I_ofNat, Option.bind_some, kIn, I_l0, I_l1, I_l2, I_l3, I_l4, I_l5, I_l6, I_l7, I_l8, I_l9, I_l10, I_l11, I_l12, I_l13, I_l40, I_l43, I_l44, I_l45, I_l48, I_l57, I_l58, I_l60, I_l61, I_l62, I_l79, I_l80, I_l100, I_l101, I_l120, I_l200, I_l201, I_l1999, I_l2000, I_l2001, I_eq, if_neg, if_pos]
    exact obind e1 (obind G9 (obind G9w (obind z1 (obind z4 (obind (f0_joinWithNext (by omega) (fun i p z => by have := (k0.2 i p z).1; omega) (fun i p z => by have := (k0.2 i p z).2.1; omega)) rfl)))))
  exact ⟨(((cz (cls c0 60 (v + 1) 1 n0), cz (cls (up l0 v (if 2000 < l0 v + l0 (v + 1) then 2000 else l0 v + l0 (v + 1))) 60 (v + 1) 1 n0), cz (cls (up o0 v (if 10 < o0 v + o0 (v + 1) then 10 else o0 v + o0 (v + 1))) 60 (v + 1) 1 n0), I (n0 - 1)), (cz c1, cz l1, cz o1, I n1), (cz L3, cz R3, I (g - (w - j)))), hs, tx, nn, (I w0, I w1, I ph, I h)), _, _, _, L3, R3, obind E (obind e2 rfl), ⟨rfl, rfl, ok, k1, hM, e4, hw0, hw1, hph, hh⟩, e3, rfl, hc, hl2, ho, z3⟩
theorem s_joinB0 {x : Sg} {c0 l0 o0 : Int → Int} {n0 : Int} {c1 l1 o1 : Int → Int} {n1 : Int} {L R : Int → Int} {g k w0 w1 ph h : Int} (d : dX x c0 l0 o0 n0 c1 l1 o1 n1 L R g k w0 w1 ph h) {v : Int} (q : 0 ≤ v ∧ v < n0) (he : v + 1 = n0 ∨ ¬ c0 v = c0 (v + 1)) : sJoinVerses x (I 0) (I v) = some (I (-4), x) := by
  obtain ⟨⟨⟨v0, v1, v2, v3⟩, ⟨v4, v5, v6, v7⟩, v8, v9, v10⟩, ⟨a0, s0, s1, s2, s3, s4⟩, tx, nn, ⟨y0, y1, y2, y3⟩⟩ := x
  obtain ⟨e, ey, k0, k1, kM, hA, hw0, hw1, hph, hh⟩ := d
  simp only [Prod.mk.injEq] at e ey
  obtain ⟨⟨rfl, rfl, rfl, rfl⟩, ⟨rfl, rfl, rfl, rfl⟩, rfl, rfl, rfl⟩ := e
  obtain ⟨rfl, rfl, rfl, rfl⟩ := ey
  have hg := kM.1
  have b0 := k0.1
  have b1 := k1.1
  have hA0 := hA
  obtain ⟨hk0, hk, -⟩ := hA
  have hk1 : a0 = I k := hk0
  subst hk1
  have eN : nH (I k) 0 s0 s1 s2 s3 s4 = some (I k, s0, s1, s2, s3, s4) := rfl
  have hY := f9_isVerseY ⟨b0, b1⟩ (Or.inl ⟨rfl, q⟩)
  have kv := k0.2 v q.1 q.2
  have E : pX9_joinVerses (cz c0) (cz l0) (cz o0) (I n0) (cz c1) (cz l1) (cz o1) (I n1) (cz L) (cz R) (I g) (I k) s0 s1 s2 s3 s4 (I 0) (I v) = some (I (-4), cz c0, cz l0, cz o0, I n0, cz c1, cz l1, cz o1, I n1, cz L, cz R, I g, I k, 0, s0, s1, s2, s3, s4) := by
    unfold pX9_joinVerses
    simp only [if_true, if_false, I_add, I_sub, I_mul, I_neg, I_ofNat, Option.bind_some, kIn, I_l0, I_l1, I_l2, I_l3, I_l4, I_l5, I_l6, I_l7, I_l8, I_l9, I_l10, I_l11, I_l12, I_l13, I_l40, I_l43, I_l44, I_l45, I_l48, I_l57, I_l58, I_l60, I_l61, I_l62, I_l79, I_l80, I_l100, I_l101, I_l120, I_l200, I_l201, I_l1999, I_l2000, I_l2001]
    by_cases qn : v + 1 = n0
    · rw [hY, f0_chapterOf (n := n0) (by omega), f0_chapterOf (n := n0) (by omega), at0_in q, at0_out (a := v + 1) (by omega)]
      simp (disch := omega) only [if_true, if_false, I_add, I_sub, I_mul, I_neg, I_ofNat, Option.bind_some, kIn, I_l0, I_l1, I_l2, I_l3, I_l4, I_l5, I_l6, I_l7, I_l8, I_l9, I_l10, I_l11, I_l12, I_l13, I_l40, I_l43, I_l44, I_l45, I_l48, I_l57, I_l58, I_l60, I_l61, I_l62, I_l79, I_l80, I_l100, I_l101, I_l120, I_l200, I_l201, I_l1999, I_l2000, I_l2001, I_eq, if_neg, if_pos]
    · have kv1 := k0.2 (v + 1) (by omega) (by omega)
      have hz : ¬ c0 v = c0 (v + 1) := by
        rcases he with z | z
        · exact absurd z qn
        · exact z
      rw [hY, f0_chapterOf (n := n0) (by omega), f0_chapterOf (n := n0) (by omega), at0_in q, at0_in (a := v + 1) (by omega)]
      simp (disch := omega) only [if_true, if_false, I_add, I_sub, I_mul, I_neg, I_ofNat, Option.bind_some, kIn, I_l0, I_l1, I_l2, I_l3, I_l4, I_l5, I_l6, I_l7, I_l8, I_l9, I_l10, I_l11, I_l12, I_l13, I_l40, I_l43, I_l44, I_l45, I_l48, I_l57, I_l58, I_l60, I_l61, I_l62, I_l79, I_l80, I_l100, I_l101, I_l120, I_l200, I_l201, I_l1999, I_l2000, I_l2001, I_eq, if_neg, if_pos]
  exact obind E (obind eN rfl)
theorem s_join1 {x : Sg} {c0 l0 o0 : Int → Int} {n0 : Int} {c1 l1 o1 : Int → Int} {n1 : Int} {L R : Int → Int} {g k w0 w1 ph h : Int} (d : dX x c0 l0 o0 n0 c1 l1 o1 n1 L R g k w0 w1 ph h) {v j w : Int} (q : 0 ≤ v ∧ v + 1 < n1) (he : c1 v = c1 (v + 1)) (j0 : 0 ≤ j ∧ j < g) (j1 : Sm (sel 1 L R) j ≤ v) (j2 : v < Sm (sel 1 L R) (j + 1)) (q0 : 0 ≤ w ∧ w < g) (q1 : Sm (sel 1 L R) w ≤ v + 1) (q2 : v + 1 < Sm (sel 1 L R) (w + 1)) : ∃ (x' : Sg) (c2 l2 o2 L3 R3 : Int → Int), sJoinVerses x (I 1) (I v) = some (I (n1 - 1), x') ∧ dX x' c0 l0 o0 n0 c2 l2 o2 (n1 - 1) L3 R3 (g - (w - j)) (k5 k) w0 w1 ph h ∧ hTp x'.2.1 (k5 k) x.1 ∧ x'.2.2 = x.2.2 ∧ (∀ i, 0 ≤ i → i < n1 - 1 → c2 i = rmv c1 v i) ∧ (∀ i, 0 ≤ i → i < n1 - 1 → l2 i = rmv (up l1 v (if 2000 < l1 v + l1 (v + 1) then 2000 else l1 v + l1 (v + 1))) v i) ∧ (∀ i, 0 ≤ i → i < n1 - 1 → o2 i = rmv (up o1 v (if 10 < o1 v + o1 (v + 1) then 10 else o1 v + o1 (v + 1))) v i) ∧ ∀ i, 0 ≤ i → i < g - (w - j) → L3 i = (if (1 : Int) = 0 then dlt (mrg L j w) j (-1) else mrg L j w) i ∧ R3 i = (if (1 : Int) = 0 then mrg R j w else dlt (mrg R j w) j (-1)) i := by
  obtain ⟨⟨⟨v0, v1, v2, v3⟩, ⟨v4, v5, v6, v7⟩, v8, v9, v10⟩, ⟨a0, s0, s1, s2, s3, s4⟩, tx, nn, ⟨y0, y1, y2, y3⟩⟩ := x
  obtain ⟨e, ey, k0, k1, kM, hA, hw0, hw1, hph, hh⟩ := d
  simp only [Prod.mk.injEq] at e ey
  obtain ⟨⟨rfl, rfl, rfl, rfl⟩, ⟨rfl, rfl, rfl, rfl⟩, rfl, rfl, rfl⟩ := e
  obtain ⟨rfl, rfl, rfl, rfl⟩ := ey
  have hg := kM.1
  have b0 := k0.1
  have b1 := k1.1
  have hY := f9_isVerseY ⟨b0, b1⟩ (Or.inr ⟨rfl, q.1, by omega⟩)
  have kv := k1.2 v q.1 (by omega)
  have kv1 := k1.2 (v + 1) (by omega) (by omega)
  obtain ⟨r, t0, t1, t2, t3, t4, hs, e1, e2, e3, e4⟩ := t_record (vL0 := cz c0) (vL1 := cz l0) (vL2 := cz o0) (vL3 := I n0) (vR0 := cz c1) (vR1 := cz l1) (vR2 := cz o1) (vR3 := I n1) (vM0 := cz L) (vM1 := cz R) (vM2 := I g) hA ⟨c0, l0, o0, n0, c1, l1, o1, n1, L, R, g, rfl, k0, k1, kM⟩
  have hF : ∀ i, 0 ≤ i → i < g → 0 ≤ sel 1 L R i ∧ sel 1 L R i ≤ 1000 := fun i p z => by have := okM_S (b := 1) kM i p z; omega
  have hSn : Sm (sel 1 L R) g = n1 := kM.2.2.2
  have jw : j ≤ w := grp_mono (F := sel 1 L R) (fun i p z => (hF i p z).1) j0 q0 j1 q2 (by omega)
  have G9 := f1_groupOf (L := L) (R := R) (b := 1) ⟨hg, by omega, j0, by omega⟩ hF j1 j2
  have G9w := f1_groupOf (L := L) (R := R) (b := 1) ⟨hg, by omega, q0, by omega⟩ hF q1 q2
  obtain ⟨L2, R2, z0, z1⟩ := f1_mergeM (L := L) (R := R) (g := g) (a := j) (c := w) (by omega)
  obtain ⟨L3, R3, z2, z4⟩ := f1_resizeB (L := L2) (R := R2) (g := g - (w - j)) (a := j) (b := 1) (d := -1) (by omega)
  have z3 : ∀ i, 0 ≤ i → i < g - (w - j) → L3 i = (if (1 : Int) = 0 then dlt (mrg L j w) j (-1) else mrg L j w) i ∧ R3 i = (if (1 : Int) = 0 then mrg R j w else dlt (mrg R j w) j (-1)) i := fun i p z => by
    have h5 := z2 i p z
    have h6 := z0 i p z
    rw [h5.1, h5.2]
    unfold dlt
    exact ⟨h6.1, congrArg (fun t => if i = j then t + -1 else t) h6.2⟩
  have hmm : sel 1 (mrg L j w) (mrg R j w) j = Sm (sel 1 L R) (w + 1) - Sm (sel 1 L R) j := by
    show mrg (sel 1 L R) j w j = _
    unfold mrg
    rw [if_neg (by omega), if_pos rfl]
  have hMk := okM_mrg kM ⟨b0.2, b1.2⟩ ⟨j0.1, jw, q0.2⟩
  have hkm := hMk.2.1 j j0.1 (by omega)
  have hse : sel 1 (mrg L j w) (mrg R j w) j = mrg R j w j := rfl
  have hM := (okM_dlt (b := 1) (d := -1) (m2 := n0) (n2 := n1 - 1) hMk ⟨j0.1, by omega⟩ rfl rfl (by omega) (by omega)).val z3
  have hc : ∀ i, 0 ≤ i → i < n1 - 1 → cls c1 60 (v + 1) 1 n1 i = rmv c1 v i := fun i p z => rmv_class (by omega) ⟨p, z⟩
  have hl2 : ∀ i, 0 ≤ i → i < n1 - 1 → cls (up l1 v (if 2000 < l1 v + l1 (v + 1) then 2000 else l1 v + l1 (v + 1))) 60 (v + 1) 1 n1 i = rmv (up l1 v (if 2000 < l1 v + l1 (v + 1) then 2000 else l1 v + l1 (v + 1))) v i := fun i p z => rmv_class (by omega) ⟨p, z⟩
  have ho : ∀ i, 0 ≤ i → i < n1 - 1 → cls (up o1 v (if 10 < o1 v + o1 (v + 1) then 10 else o1 v + o1 (v + 1))) 60 (v + 1) 1 n1 i = rmv (up o1 v (if 10 < o1 v + o1 (v + 1) then 10 else o1 v + o1 (v + 1))) v i := fun i p z => rmv_class (by omega) ⟨p, z⟩
  have ok := okB_rmv (x := (if 2000 < l1 v + l1 (v + 1) then 2000 else l1 v + l1 (v + 1))) (y := (if 10 < o1 v + o1 (v + 1) then 10 else o1 v + o1 (v + 1))) k1 (by omega) (by split <;> omega) (by split <;> omega) he hc hl2 ho
  have E : pX9_joinVerses (cz c0) (cz l0) (cz o0) (I n0) (cz c1) (cz l1) (cz o1) (I n1) (cz L) (cz R) (I g) a0 s0 s1 s2 s3 s4 (I 1) (I v) = some (I (n1 - 1), cz c0, cz l0, cz o0, I n0, cz (cls c1 60 (v + 1) 1 n1), cz (cls (up l1 v (if 2000 < l1 v + l1 (v + 1) then 2000 else l1 v + l1 (v + 1))) 60 (v + 1) 1 n1), cz (cls (up o1 v (if 10 < o1 v + o1 (v + 1) then 10 else o1 v + o1 (v + 1))) 60 (v + 1) 1 n1), I (n1 - 1), cz L3, cz R3, I (g - (w - j)), I (k5 k), r, t0, t1, t2, t3, t4) := by
    unfold pX9_joinVerses
    simp only [if_true, if_false, I_add, I_sub, I_mul, I_neg, I_ofNat, Option.bind_some, kIn, I_l0, I_l1, I_l2, I_l3, I_l4, I_l5, I_l6, I_l7, I_l8, I_l9, I_l10, I_l11, I_l12, I_l13, I_l40, I_l43, I_l44, I_l45, I_l48, I_l57, I_l58, I_l60, I_l61, I_l62, I_l79, I_l80, I_l100, I_l101, I_l120, I_l200, I_l201, I_l1999, I_l2000, I_l2001]
    rw [hY, f0_chapterOf (n := n1) (by omega), f0_chapterOf (n := n1) (by omega), at0_in (a := v) (by omega), at0_in (a := v + 1) (by omega), ← he]
    simp (disch := omega) only [if_true, if_false, I_add, I_sub, I_mul, I_neg, I_ofNat, Option.bind_some, kIn, I_l0, I_l1, I_l2, I_l3, I_l4, I_l5, I_l6, I_l7, I_l8, I_l9, I_l10, I_l11, I_l12, I_l13, I_l40, I_l43, I_l44, I_l45, I_l48, I_l57, I_l58, I_l60, I_l61, I_l62, I_l79, I_l80, I_l100, I_l101, I_l120, I_l200, I_l201, I_l1999, I_l2000, I_l2001, I_eq, if_neg, if_pos]
    exact obind e1 (obind G9 (obind G9w (obind z1 (obind z4 (obind (f0_joinWithNext (by omega) (fun i p z => by have := (k1.2 i p z).1; omega) (fun i p z => by have := (k1.2 i p z).2.1; omega)) rfl)))))
  exact ⟨(((cz c0, cz l0, cz o0, I n0), (cz (cls c1 60 (v + 1) 1 n1), cz (cls (up l1 v (if 2000 < l1 v + l1 (v + 1) then 2000 else l1 v + l1 (v + 1))) 60 (v + 1) 1 n1), cz (cls (up o1 v (if 10 < o1 v + o1 (v + 1) then 10 else o1 v + o1 (v + 1))) 60 (v + 1) 1 n1), I (n1 - 1)), (cz L3, cz R3, I (g - (w - j)))), hs, tx, nn, (I w0, I w1, I ph, I h)), _, _, _, L3, R3, obind E (obind e2 rfl), ⟨rfl, rfl, k0, ok, hM, e4, hw0, hw1, hph, hh⟩, e3, rfl, hc, hl2, ho, z3⟩
theorem s_joinB1 {x : Sg} {c0 l0 o0 : Int → Int} {n0 : Int} {c1 l1 o1 : Int → Int} {n1 : Int} {L R : Int → Int} {g k w0 w1 ph h : Int} (d : dX x c0 l0 o0 n0 c1 l1 o1 n1 L R g k w0 w1 ph h) {v : Int} (q : 0 ≤ v ∧ v < n1) (he : v + 1 = n1 ∨ ¬ c1 v = c1 (v + 1)) : sJoinVerses x (I 1) (I v) = some (I (-4), x) := by
  obtain ⟨⟨⟨v0, v1, v2, v3⟩, ⟨v4, v5, v6, v7⟩, v8, v9, v10⟩, ⟨a0, s0, s1, s2, s3, s4⟩, tx, nn, ⟨y0, y1, y2, y3⟩⟩ := x
  obtain ⟨e, ey, k0, k1, kM, hA, hw0, hw1, hph, hh⟩ := d
  simp only [Prod.mk.injEq] at e ey
  obtain ⟨⟨rfl, rfl, rfl, rfl⟩, ⟨rfl, rfl, rfl, rfl⟩, rfl, rfl, rfl⟩ := e
  obtain ⟨rfl, rfl, rfl, rfl⟩ := ey
  have hg := kM.1
  have b0 := k0.1
  have b1 := k1.1
  have hA0 := hA
  obtain ⟨hk0, hk, -⟩ := hA
  have hk1 : a0 = I k := hk0
  subst hk1
  have eN : nH (I k) 0 s0 s1 s2 s3 s4 = some (I k, s0, s1, s2, s3, s4) := rfl
  have hY := f9_isVerseY ⟨b0, b1⟩ (Or.inr ⟨rfl, q⟩)
  have kv := k1.2 v q.1 q.2
  have E : pX9_joinVerses (cz c0) (cz l0) (cz o0) (I n0) (cz c1) (cz l1) (cz o1) (I n1) (cz L) (cz R) (I g) (I k) s0 s1 s2 s3 s4 (I 1) (I v) = some (I (-4), cz c0, cz l0, cz o0, I n0, cz c1, cz l1, cz o1, I n1, cz L, cz R, I g, I k, 0, s0, s1, s2, s3, s4) := by
    unfold pX9_joinVerses
    simp only [if_true, if_false, I_add, I_sub, I_mul, I_neg, I_ofNat, Option.bind_some, kIn, I_l0, I_l1, I_l2, I_l3, I_l4, I_l5, I_l6, I_l7, I_l8, I_l9, I_l10, I_l11, I_l12, I_l13, I_l40, I_l43, I_l44, I_l45, I_l48, I_l57, I_l58, I_l60, I_l61, I_l62, I_l79, I_l80, I_l100, I_l101, I_l120, I_l200, I_l201, I_l1999, I_l2000, I_l2001]
    by_cases qn : v + 1 = n1
    · rw [hY, f0_chapterOf (n := n1) (by omega), f0_chapterOf (n := n1) (by omega), at0_in q, at0_out (a := v + 1) (by omega)]
      simp (disch := omega) only [if_true, if_false, I_add, I_sub, I_mul, I_neg, I_ofNat, Option.bind_some, kIn, I_l0, I_l1, I_l2, I_l3, I_l4, I_l5, I_l6, I_l7, I_l8, I_l9, I_l10, I_l11, I_l12, I_l13, I_l40, I_l43, I_l44, I_l45, I_l48, I_l57, I_l58, I_l60, I_l61, I_l62, I_l79, I_l80, I_l100, I_l101, I_l120, I_l200, I_l201, I_l1999, I_l2000, I_l2001, I_eq, if_neg, if_pos]
    · have kv1 := k1.2 (v + 1) (by omega) (by omega)
      have hz : ¬ c1 v = c1 (v + 1) := by
        rcases he with z | z
        · exact absurd z qn
        · exact z
      rw [hY, f0_chapterOf (n := n1) (by omega), f0_chapterOf (n := n1) (by omega), at0_in q, at0_in (a := v + 1) (by omega)]
      simp (disch := omega) only [if_true, if_false, I_add, I_sub, I_mul, I_neg, I_ofNat, Option.bind_some, kIn, I_l0, I_l1, I_l2, I_l3, I_l4, I_l5, I_l6, I_l7, I_l8, I_l9, I_l10, I_l11, I_l12, I_l13, I_l40, I_l43, I_l44, I_l45, I_l48, I_l57, I_l58, I_l60, I_l61, I_l62, I_l79, I_l80, I_l100, I_l101, I_l120, I_l200, I_l201, I_l1999, I_l2000, I_l2001, I_eq, if_neg, if_pos]
  exact obind E (obind eN rfl)
theorem sE_join1 {x : Sg} {c0 l0 o0 : Int → Int} {n0 : Int} {c1 l1 o1 : Int → Int} {n1 : Int} {L R : Int → Int} {g k w0 w1 ph h : Int} (d : dX x c0 l0 o0 n0 c1 l1 o1 n1 L R g k w0 w1 ph h) {b v : Int} (q : ¬ ((b = 0 ∧ 0 ≤ v ∧ v < n0) ∨ (b = 1 ∧ 0 ≤ v ∧ v < n1))) (hr : (-2147483648 ≤ b ∧ b ≤ 2147483647) ∧ -2147483648 ≤ v ∧ v ≤ 2147483647) : sJoinVerses x (I b) (I v) = some (I (-1), x) := by
  obtain ⟨⟨⟨v0, v1, v2, v3⟩, ⟨v4, v5, v6, v7⟩, v8, v9, v10⟩, ⟨a0, s0, s1, s2, s3, s4⟩, tx, nn, ⟨y0, y1, y2, y3⟩⟩ := x
  obtain ⟨e, ey, k0, k1, kM, hA, hw0, hw1, hph, hh⟩ := d
  simp only [Prod.mk.injEq] at e ey
  obtain ⟨⟨rfl, rfl, rfl, rfl⟩, ⟨rfl, rfl, rfl, rfl⟩, rfl, rfl, rfl⟩ := e
  obtain ⟨rfl, rfl, rfl, rfl⟩ := ey
  have hg := kM.1
  have b0 := k0.1
  have b1 := k1.1
  have hA0 := hA
  obtain ⟨hk0, hk, -⟩ := hA
  have hk1 : a0 = I k := hk0
  subst hk1
  have eN : nH (I k) 0 s0 s1 s2 s3 s4 = some (I k, s0, s1, s2, s3, s4) := rfl
  have E : pX9_joinVerses (cz c0) (cz l0) (cz o0) (I n0) (cz c1) (cz l1) (cz o1) (I n1) (cz L) (cz R) (I g) (I k) s0 s1 s2 s3 s4 (I b) (I v) = some (I (-1), cz c0, cz l0, cz o0, I n0, cz c1, cz l1, cz o1, I n1, cz L, cz R, I g, I k, 0, s0, s1, s2, s3, s4) := by
    unfold pX9_joinVerses
    simp only [if_true, if_false, I_add, I_sub, I_mul, I_neg, I_ofNat, Option.bind_some, kIn, I_l0, I_l1, I_l2, I_l3, I_l4, I_l5, I_l6, I_l7, I_l8, I_l9, I_l10, I_l11, I_l12, I_l13, I_l40, I_l43, I_l44, I_l45, I_l48, I_l57, I_l58, I_l60, I_l61, I_l62, I_l79, I_l80, I_l100, I_l101, I_l120, I_l200, I_l201, I_l1999, I_l2000, I_l2001]
    rw [f9_isVerseN (by omega) q]
    simp (disch := omega) only [if_true, if_false, I_add, I_sub, I_mul, I_neg, I_ofNat, Option.bind_some, kIn, I_l0, I_l1, I_l2, I_l3, I_l4, I_l5, I_l6, I_l7, I_l8, I_l9, I_l10, I_l11, I_l12, I_l13, I_l40, I_l43, I_l44, I_l45, I_l48, I_l57, I_l58, I_l60, I_l61, I_l62, I_l79, I_l80, I_l100, I_l101, I_l120, I_l200, I_l201, I_l1999, I_l2000, I_l2001, I_eq, if_pos]
  exact obind E (obind eN rfl)
