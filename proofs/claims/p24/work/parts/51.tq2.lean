-- what a page, a group, a count tell
abbrev tY (e : Option (Int32 × (Nat → Int32) × (Nat → Int32) × (Nat → Int32) × (Nat → Int32) × Int32 × Int32 × Int32)) (a : Int) : Prop := tYi e (I a)
def pA (j j2 s n ph y : Int) : Int := if y = 0 then j else if y = 1 then j2 else if y = 2 then s else if y = 3 then n else if s + n ≤ ph then 0 else 1
section TQ2
variable {c0 l0 o0 c1 l1 o1 L R : Int → Int} {n0 n1 g w0 w1 ph h : Int}
theorem t_pageN (k0 : okB n0 c0 l0 o0) (k1 : okB n1 c1 l1 o1) (kM : okM g L R n0 n1) (hw0 : 1 ≤ w0 ∧ w0 ≤ 200) (hw1 : 1 ≤ w1 ∧ w1 ≤ 200) (hh : 0 ≤ h ∧ h ≤ 5) (hph : 0 ≤ ph ∧ ph ≤ 200) (x4 x5 x6 x7 : Nat → Int32) (x8 x9 x10 : Int32) {p : Int} {i2 : Int32} (hp : -2147483648 ≤ p ∧ p < 0) : tY (pX9_page (cz c0) (cz l0) (cz o0) (I n0) (cz c1) (cz l1) (cz o1) (I n1) (cz L) (cz R) (I g) (I w0) (I w1) (I ph) (I h) x4 x5 x6 x7 x8 x9 x10 (I p) i2) (-2) := by
  unfold pX9_page
  refine ⟨x4, x5, x6, x7, x8, x9, x10, if_pos ?_⟩
  simp (disch := omega) only [if_true, if_false, I_add, I_sub, I_mul, I_neg, I_ofNat, Option.bind_some, kIn, I_l0, I_l1, I_l2, I_l3, I_l4, I_l5, I_l6, I_l7, I_l8, I_l9, I_l10, I_l11, I_l12, I_l13, I_l40, I_l43, I_l44, I_l45, I_l48, I_l57, I_l58, I_l60, I_l61, I_l62, I_l79, I_l80, I_l100, I_l101, I_l120, I_l200, I_l201, I_l1999, I_l2000, I_l2001, I_lt]
  omega
theorem t_pageW (k0 : okB n0 c0 l0 o0) (k1 : okB n1 c1 l1 o1) (kM : okM g L R n0 n1) (hw0 : 1 ≤ w0 ∧ w0 ≤ 200) (hw1 : 1 ≤ w1 ∧ w1 ≤ 200) (hh : 0 ≤ h ∧ h ≤ 5) (hph : 0 ≤ ph ∧ ph ≤ 200) (x4 x5 x6 x7 : Nat → Int32) (x8 x9 x10 : Int32) {p y : Int} (hp : 0 ≤ p ∧ p ≤ 2147483647) (hy : -2147483648 ≤ y ∧ y ≤ 2147483647) (q2 : ¬ (0 ≤ y ∧ y ≤ 4)) : tY (pX9_page (cz c0) (cz l0) (cz o0) (I n0) (cz c1) (cz l1) (cz o1) (I n1) (cz L) (cz R) (I g) (I w0) (I w1) (I ph) (I h) x4 x5 x6 x7 x8 x9 x10 (I p) (I y)) (-2) := by
  have e1 : pX9_isWithin (I y) (0 : Int32) (4 : Int32) = some (I 0) := by
    have := f9_isWithin (v := y) (lo := 0) (hi := 4) (by omega)
    rw [if_neg q2] at this
    exact this
  unfold pX9_page
  refine ⟨x4, x5, x6, x7, x8, x9, x10, (if_neg ?_).trans (obind e1 (if_pos (by decide)))⟩
  simp (disch := omega) only [if_true, if_false, I_add, I_sub, I_mul, I_neg, I_ofNat, Option.bind_some, kIn, I_l0, I_l1, I_l2, I_l3, I_l4, I_l5, I_l6, I_l7, I_l8, I_l9, I_l10, I_l11, I_l12, I_l13, I_l40, I_l43, I_l44, I_l45, I_l48, I_l57, I_l58, I_l60, I_l61, I_l62, I_l79, I_l80, I_l100, I_l101, I_l120, I_l200, I_l201, I_l1999, I_l2000, I_l2001, I_lt]
  omega
theorem t_pageE (k0 : okB n0 c0 l0 o0) (k1 : okB n1 c1 l1 o1) (kM : okM g L R n0 n1) (hw0 : 1 ≤ w0 ∧ w0 ≤ 200) (hw1 : 1 ≤ w1 ∧ w1 ≤ 200) (hh : 0 ≤ h ∧ h ≤ 5) (hph : 0 ≤ ph ∧ ph ≤ 200) (x4 x5 x6 x7 : Nat → Int32) (x8 x9 x10 : Int32) {p y : Int} (hp : pgC (hgt c0 l0 c1 l1 L R w0 w1 h) (nts o0 o1 L R) ph g ≤ p ∧ p ≤ 2147483647) (q2 : 0 ≤ y ∧ y ≤ 4) : tY (pX9_page (cz c0) (cz l0) (cz o0) (I n0) (cz c1) (cz l1) (cz o1) (I n1) (cz L) (cz R) (I g) (I w0) (I w1) (I ph) (I h) x4 x5 x6 x7 x8 x9 x10 (I p) (I y)) (-5) := by
  obtain ⟨f4, rfl, -⟩ := cz_of x4
  obtain ⟨f5, rfl, -⟩ := cz_of x5
  obtain ⟨f6, rfl, -⟩ := cz_of x6
  obtain ⟨f7, rfl, -⟩ := cz_of x7
  obtain ⟨f9, -, rfl⟩ := I_of x9
  have hg := kM.1
  have b0 := k0.1
  have b1 := k1.1
  have e1 : pX9_isWithin (I y) (0 : Int32) (4 : Int32) = some (I 1) := by
    have := f9_isWithin (v := y) (lo := 0) (hi := 4) (by omega)
    rw [if_pos q2] at this
    exact this
  have hC := (pg_bd (ph := ph) (hgt_bd k0 k1 kM hw0 hw1 hh) (nts_bd k0 k1 kM) g hg.1 (Int.le_refl _)).1
  obtain ⟨hc, nc, pn, ls, v1, v2⟩ := f3_arrange (hc := f4) (nc := f5) (pn := f6) (ls := f7) (c9 := f9) k0 k1 kM hw0 hw1 hh (ph := ph) (by omega)
  unfold pX9_page
  refine ⟨_, _, _, _, _, _, _, (if_neg ?_).trans (obind e1 ((if_neg (by decide)).trans (obind v2 (if_neg ?_))))⟩
  · simp (disch := omega) only [if_true, if_false, I_add, I_sub, I_mul, I_neg, I_ofNat, Option.bind_some, kIn, I_l0, I_l1, I_l2, I_l3, I_l4, I_l5, I_l6, I_l7, I_l8, I_l9, I_l10, I_l11, I_l12, I_l13, I_l40, I_l43, I_l44, I_l45, I_l48, I_l57, I_l58, I_l60, I_l61, I_l62, I_l79, I_l80, I_l100, I_l101, I_l120, I_l200, I_l201, I_l1999, I_l2000, I_l2001, I_lt]
    omega
  · dsimp only
    rw [I_lt (by omega)]
    omega
theorem t_page (k0 : okB n0 c0 l0 o0) (k1 : okB n1 c1 l1 o1) (kM : okM g L R n0 n1) (hw0 : 1 ≤ w0 ∧ w0 ≤ 200) (hw1 : 1 ≤ w1 ∧ w1 ≤ 200) (hh : 0 ≤ h ∧ h ≤ 5) (hph : 0 ≤ ph ∧ ph ≤ 200) (x4 x5 x6 x7 : Nat → Int32) (x8 x9 x10 : Int32) {p y j j2 : Int} (hp : 0 ≤ p) (q2 : 0 ≤ y ∧ y ≤ 4) (hj : isF (pgP (hgt c0 l0 c1 l1 L R w0 w1 h) (nts o0 o1 L R) ph) p g j) (hj2 : isL (pgP (hgt c0 l0 c1 l1 L R w0 w1 h) (nts o0 o1 L R) ph) p g j2) : tY (pX9_page (cz c0) (cz l0) (cz o0) (I n0) (cz c1) (cz l1) (cz o1) (I n1) (cz L) (cz R) (I g) (I w0) (I w1) (I ph) (I h) x4 x5 x6 x7 x8 x9 x10 (I p) (I y)) (pA j j2 (psm (pgP (hgt c0 l0 c1 l1 L R w0 w1 h) (nts o0 o1 L R) ph) (hgt c0 l0 c1 l1 L R w0 w1 h) p g) (wl (psm (pgP (hgt c0 l0 c1 l1 L R w0 w1 h) (nts o0 o1 L R) ph) (nts o0 o1 L R) p g)) ph y) := by
  obtain ⟨f4, rfl, -⟩ := cz_of x4
  obtain ⟨f5, rfl, -⟩ := cz_of x5
  obtain ⟨f6, rfl, -⟩ := cz_of x6
  obtain ⟨f7, rfl, -⟩ := cz_of x7
  obtain ⟨f9, -, rfl⟩ := I_of x9
  have hg := kM.1
  have b0 := k0.1
  have b1 := k1.1
  have e1 : pX9_isWithin (I y) (0 : Int32) (4 : Int32) = some (I 1) := by
    have := f9_isWithin (v := y) (lo := 0) (hi := 4) (by omega)
    rw [if_pos q2] at this
    exact this
  have h1 := hgt_bd k0 k1 kM hw0 hw1 hh
  have h2 := nts_bd k0 k1 kM
  have hC := (pg_bd (ph := ph) h1 h2 g hg.1 (Int.le_refl _)).1
  have q3 : p < pgC (hgt c0 l0 c1 l1 L R w0 w1 h) (nts o0 o1 L R) ph g := by
    have := pgP_lt (ph := ph) h1 h2 g (Int.le_refl _) j hj.1.1 hj.1.2
    rw [hj.2.1] at this
    exact this.2
  obtain ⟨hc, nc, pn, ls, v1, v2⟩ := f3_arrange (hc := f4) (nc := f5) (pn := f6) (ls := f7) (c9 := f9) k0 k1 kM hw0 hw1 hh (ph := ph) (by omega)
  have hF9 : isF pn p g j := ⟨hj.1, by rw [(v1 j hj.1.1 hj.1.2).2.2.1]; exact hj.2.1, fun i s t => by rw [(v1 i s (by have := hj.1; omega)).2.2.1]; exact hj.2.2 i s t⟩
  have hL9 : isL pn p g j2 := ⟨hj2.1, by rw [(v1 j2 hj2.1.1 hj2.1.2).2.2.1]; exact hj2.2.1, fun i s t => by rw [(v1 i (by have := hj2.1; omega) t).2.2.1]; exact hj2.2.2 i s t⟩
  have hb9 : ∀ i, 0 ≤ i → i < g → 0 ≤ pn i ∧ pn i ≤ 1000 := fun i s t => by rw [(v1 i s t).2.2.1]; have := pgP_lt (ph := ph) h1 h2 g (Int.le_refl _) i s t; omega
  have t1 := psm_congr (p := p) hg.1 (fun i s t => (v1 i s t).2.2.1) (fun i s t => (v1 i s t).1)
  have t2 := psm_congr (p := p) hg.1 (fun i s t => (v1 i s t).2.2.1) (fun i s t => (v1 i s t).2.1)
  have hcB : ∀ i, 0 ≤ i → i < g → 0 ≤ hc i ∧ hc i ≤ 1000000 := fun i s t => by rw [(v1 i s t).1]; exact h1 i s t
  have ncB : ∀ i, 0 ≤ i → i < g → 0 ≤ nc i ∧ nc i ≤ 1000000 := fun i s t => by rw [(v1 i s t).2.1]; exact h2 i s t
  have G1 := f3_firstGroupOf hg (by omega) hb9 hF9
  have G2 := f3_lastGroupOf hg (by omega) hb9 hL9
  have G3 := f3_heightSumOf (hc := hc) (p := p) hg (by omega) hb9
  have G4 := f3_noteLinesOf (hc := nc) (p := p) hg (by omega) hb9 ncB
  have G5 := f3_overflows (hc := hc) (nc := nc) (p := p) (ph := ph) hg (by omega) (by omega) hb9 hcB ncB
  rw [t1] at G3 G5
  rw [t2] at G4 G5
  unfold pX9_page pA
  refine ⟨cz hc, cz nc, cz pn, cz ls, I g, I (pgC (hgt c0 l0 c1 l1 L R w0 w1 h) (nts o0 o1 L R) ph g), I (Sm (emp c0 l0 c1 l1 L R w0 w1 h) g), (if_neg ?_).trans (obind e1 ((if_neg (by decide)).trans (obind v2 ((if_pos ?_).trans ?_))))⟩
  · simp (disch := omega) only [if_true, if_false, I_add, I_sub, I_mul, I_neg, I_ofNat, Option.bind_some, kIn, I_l0, I_l1, I_l2, I_l3, I_l4, I_l5, I_l6, I_l7, I_l8, I_l9, I_l10, I_l11, I_l12, I_l13, I_l40, I_l43, I_l44, I_l45, I_l48, I_l57, I_l58, I_l60, I_l61, I_l62, I_l79, I_l80, I_l100, I_l101, I_l120, I_l200, I_l201, I_l1999, I_l2000, I_l2001, I_lt]
    omega
  · dsimp only
    rw [I_lt (by omega)]
    exact q3
  · have AA : ∀ (z : Int), (-2147483648 ≤ z ∧ z ≤ 2147483647) → (I y = I z) = (y = z) := fun z hz => I_eq ⟨by omega, hz⟩
    simp (disch := omega) only [if_true, if_false, I_add, I_sub, I_mul, I_neg, I_ofNat, Option.bind_some, kIn, I_l0, I_l1, I_l2, I_l3, I_l4, I_l5, I_l6, I_l7, I_l8, I_l9, I_l10, I_l11, I_l12, I_l13, I_l40, I_l43, I_l44, I_l45, I_l48, I_l57, I_l58, I_l60, I_l61, I_l62, I_l79, I_l80, I_l100, I_l101, I_l120, I_l200, I_l201, I_l1999, I_l2000, I_l2001, AA, G1, G2, G3, G4, G5]
    by_cases y0 : y = 0
    · rw [if_pos y0, if_pos y0]
    · rw [if_neg y0, if_neg y0]
      by_cases y1 : y = 1
      · rw [if_pos y1, if_pos y1]
      · rw [if_neg y1, if_neg y1]
        by_cases y2 : y = 2
        · rw [if_pos y2, if_pos y2]
        · rw [if_neg y2, if_neg y2]
          by_cases y3 : y = 3
          · rw [if_pos y3, if_pos y3]
          · rw [if_neg y3, if_neg y3]
            by_cases z : psm (pgP (hgt c0 l0 c1 l1 L R w0 w1 h) (nts o0 o1 L R) ph) (hgt c0 l0 c1 l1 L R w0 w1 h) p g + wl (psm (pgP (hgt c0 l0 c1 l1 L R w0 w1 h) (nts o0 o1 L R) ph) (nts o0 o1 L R) p g) ≤ ph
            · rw [if_pos z]; exact if_pos rfl
            · rw [if_neg z]; exact if_neg (by decide)
def gA (k f0 s0 f1 s1 a5 a6 a7 a8 y : Int) : Int := if y = 0 then k else if y = 1 then (if s0 = 0 then -5 else f0) else if y = 2 then s0 else if y = 3 then (if s1 = 0 then -5 else f1) else if y = 4 then s1 else if y = 5 then a5 else if y = 6 then a6 else if y = 7 then a7 else if y = 8 then a8 else -2
theorem t_group (k0 : okB n0 c0 l0 o0) (k1 : okB n1 c1 l1 o1) (kM : okM g L R n0 n1) (hw0 : 1 ≤ w0 ∧ w0 ≤ 200) (hw1 : 1 ≤ w1 ∧ w1 ≤ 200) (hh : 0 ≤ h ∧ h ≤ 5) (hph : 0 ≤ ph ∧ ph ≤ 200) (x4 x5 x6 x7 : Nat → Int32) (x8 x9 x10 : Int32) {p y : Int} (q : 0 ≤ p ∧ p < g) (hy : -2147483648 ≤ y ∧ y ≤ 2147483647) : tY (pX9_group (cz c0) (cz l0) (cz o0) (I n0) (cz c1) (cz l1) (cz o1) (I n1) (cz L) (cz R) (I g) (I w0) (I w1) (I ph) (I h) x4 x5 x6 x7 x8 x9 x10 (I p) (I y)) (gA (knd (L p) (R p)) (Sm L p) (L p) (Sm R p) (R p) ((hgt c0 l0 c1 l1 L R w0 w1 h) p) (pgP (hgt c0 l0 c1 l1 L R w0 w1 h) (nts o0 o1 L R) ph p) (pgL (hgt c0 l0 c1 l1 L R w0 w1 h) (nts o0 o1 L R) ph p) ((nts o0 o1 L R) p) y) := by
  obtain ⟨f4, rfl, -⟩ := cz_of x4
  obtain ⟨f5, rfl, -⟩ := cz_of x5
  obtain ⟨f6, rfl, -⟩ := cz_of x6
  obtain ⟨f7, rfl, -⟩ := cz_of x7
  obtain ⟨f9, -, rfl⟩ := I_of x9
  have hg := kM.1
  have b0 := k0.1
  have b1 := k1.1
  have e0 := f1_hasT (n := g) (a := p) (by omega)
  have h0 := okM_S (b := 0) kM p q.1 q.2
  have h1 := okM_S (b := 1) kM p q.1 q.2
  have u0 : sel 0 L R p = L p := rfl
  have u1 : sel 1 L R p = R p := rfl
  obtain ⟨hc, nc, pn, ls, v1, v2⟩ := f3_arrange (hc := f4) (nc := f5) (pn := f6) (ls := f7) (c9 := f9) k0 k1 kM hw0 hw1 hh (ph := ph) (by omega)
  have v6 := v1 p q.1 q.2
  unfold pX9_group gA
  by_cases q2 : 0 ≤ y ∧ y ≤ 8
  · have e1 : pX9_isWithin (I y) (0 : Int32) (8 : Int32) = some (I 1) := by
      have := f9_isWithin (v := y) (lo := 0) (hi := 8) (by omega)
      rw [if_pos q2] at this
      exact this
    have hyy : y = 0 ∨ y = 1 ∨ y = 2 ∨ y = 3 ∨ y = 4 ∨ y = 5 ∨ y = 6 ∨ y = 7 ∨ y = 8 := by omega
    rcases hyy with rfl | rfl | rfl | rfl | rfl | rfl | rfl | rfl | rfl
    · refine ⟨cz f4, cz f5, cz f6, cz f7, x8, I f9, x10, obind e0 ((if_neg (by decide)).trans (obind e1 ((if_neg (by decide)).trans ?_)))⟩
      refine (if_pos (by decide)).trans ?_
      rw [if_pos rfl]
      unfold pX9_group_j45
      simp (disch := omega) only [if_true, if_false, I_add, I_sub, I_mul, I_neg, I_ofNat, Option.bind_some, kIn, I_l0, I_l1, I_l2, I_l3, I_l4, I_l5, I_l6, I_l7, I_l8, I_l9, I_l10, I_l11, I_l12, I_l13, I_l40, I_l43, I_l44, I_l45, I_l48, I_l57, I_l58, I_l60, I_l61, I_l62, I_l79, I_l80, I_l100, I_l101, I_l120, I_l200, I_l201, I_l1999, I_l2000, I_l2001, I_eq, if_pos, if_neg]
      exact obind (f1_kindOf (by omega) (by omega) (by omega)) rfl
    · refine ⟨cz f4, cz f5, cz f6, cz f7, x8, I f9, x10, obind e0 ((if_neg (by decide)).trans (obind e1 ((if_neg (by decide)).trans ?_)))⟩
      refine (if_pos (by decide)).trans ?_
      rw [if_neg (by decide), if_pos rfl]
      unfold pX9_group_j45
      simp (disch := omega) only [if_true, if_false, I_add, I_sub, I_mul, I_neg, I_ofNat, Option.bind_some, kIn, I_l0, I_l1, I_l2, I_l3, I_l4, I_l5, I_l6, I_l7, I_l8, I_l9, I_l10, I_l11, I_l12, I_l13, I_l40, I_l43, I_l44, I_l45, I_l48, I_l57, I_l58, I_l60, I_l61, I_l62, I_l79, I_l80, I_l100, I_l101, I_l120, I_l200, I_l201, I_l1999, I_l2000, I_l2001, I_eq, if_pos, if_neg]
      exact obind (f9_fvn (b := 0) (by omega) (by omega)) rfl
    · refine ⟨cz f4, cz f5, cz f6, cz f7, x8, I f9, x10, obind e0 ((if_neg (by decide)).trans (obind e1 ((if_neg (by decide)).trans ?_)))⟩
      refine (if_pos (by decide)).trans ?_
      rw [if_neg (by decide), if_neg (by decide), if_pos rfl]
      unfold pX9_group_j45
      simp (disch := omega) only [if_true, if_false, I_add, I_sub, I_mul, I_neg, I_ofNat, Option.bind_some, kIn, I_l0, I_l1, I_l2, I_l3, I_l4, I_l5, I_l6, I_l7, I_l8, I_l9, I_l10, I_l11, I_l12, I_l13, I_l40, I_l43, I_l44, I_l45, I_l48, I_l57, I_l58, I_l60, I_l61, I_l62, I_l79, I_l80, I_l100, I_l101, I_l120, I_l200, I_l201, I_l1999, I_l2000, I_l2001, I_eq, if_pos, if_neg]
      exact obind (f1_sizeIn (b := 0) (by omega)) rfl
    · refine ⟨cz f4, cz f5, cz f6, cz f7, x8, I f9, x10, obind e0 ((if_neg (by decide)).trans (obind e1 ((if_neg (by decide)).trans ?_)))⟩
      refine (if_pos (by decide)).trans ?_
      rw [if_neg (by decide), if_neg (by decide), if_neg (by decide), if_pos rfl]
      unfold pX9_group_j45
      simp (disch := omega) only [if_true, if_false, I_add, I_sub, I_mul, I_neg, I_ofNat, Option.bind_some, kIn, I_l0, I_l1, I_l2, I_l3, I_l4, I_l5, I_l6, I_l7, I_l8, I_l9, I_l10, I_l11, I_l12, I_l13, I_l40, I_l43, I_l44, I_l45, I_l48, I_l57, I_l58, I_l60, I_l61, I_l62, I_l79, I_l80, I_l100, I_l101, I_l120, I_l200, I_l201, I_l1999, I_l2000, I_l2001, I_eq, if_pos, if_neg]
      exact obind (f9_fvn (b := 1) (by omega) (by omega)) rfl
    · refine ⟨cz f4, cz f5, cz f6, cz f7, x8, I f9, x10, obind e0 ((if_neg (by decide)).trans (obind e1 ((if_neg (by decide)).trans ?_)))⟩
      refine (if_pos (by decide)).trans ?_
      rw [if_neg (by decide), if_neg (by decide), if_neg (by decide), if_neg (by decide), if_pos rfl]
      unfold pX9_group_j45
      simp (disch := omega) only [if_true, if_false, I_add, I_sub, I_mul, I_neg, I_ofNat, Option.bind_some, kIn, I_l0, I_l1, I_l2, I_l3, I_l4, I_l5, I_l6, I_l7, I_l8, I_l9, I_l10, I_l11, I_l12, I_l13, I_l40, I_l43, I_l44, I_l45, I_l48, I_l57, I_l58, I_l60, I_l61, I_l62, I_l79, I_l80, I_l100, I_l101, I_l120, I_l200, I_l201, I_l1999, I_l2000, I_l2001, I_eq, if_pos, if_neg]
      exact obind (f1_sizeIn (b := 1) (by omega)) rfl
    · refine ⟨cz hc, cz nc, cz pn, cz ls, I g, I (pgC (hgt c0 l0 c1 l1 L R w0 w1 h) (nts o0 o1 L R) ph g), I (Sm (emp c0 l0 c1 l1 L R w0 w1 h) g), obind e0 ((if_neg (by decide)).trans (obind e1 ((if_neg (by decide)).trans ?_)))⟩
      refine (if_neg (by decide)).trans (obind v2 ?_)
      rw [if_neg (by decide), if_neg (by decide), if_neg (by decide), if_neg (by decide), if_neg (by decide), if_pos rfl, ← v6.1]
      unfold pX9_group_j45
      simp (disch := omega) only [if_true, if_false, I_add, I_sub, I_mul, I_neg, I_ofNat, Option.bind_some, kIn, I_l0, I_l1, I_l2, I_l3, I_l4, I_l5, I_l6, I_l7, I_l8, I_l9, I_l10, I_l11, I_l12, I_l13, I_l40, I_l43, I_l44, I_l45, I_l48, I_l57, I_l58, I_l60, I_l61, I_l62, I_l79, I_l80, I_l100, I_l101, I_l120, I_l200, I_l201, I_l1999, I_l2000, I_l2001, I_eq, if_pos, if_neg]
      exact obind (f3_heightOf (by omega)) rfl
    · refine ⟨cz hc, cz nc, cz pn, cz ls, I g, I (pgC (hgt c0 l0 c1 l1 L R w0 w1 h) (nts o0 o1 L R) ph g), I (Sm (emp c0 l0 c1 l1 L R w0 w1 h) g), obind e0 ((if_neg (by decide)).trans (obind e1 ((if_neg (by decide)).trans ?_)))⟩
      refine (if_neg (by decide)).trans (obind v2 ?_)
      rw [if_neg (by decide), if_neg (by decide), if_neg (by decide), if_neg (by decide), if_neg (by decide), if_neg (by decide), if_pos rfl, ← v6.2.2.1]
      unfold pX9_group_j45
      simp (disch := omega) only [if_true, if_false, I_add, I_sub, I_mul, I_neg, I_ofNat, Option.bind_some, kIn, I_l0, I_l1, I_l2, I_l3, I_l4, I_l5, I_l6, I_l7, I_l8, I_l9, I_l10, I_l11, I_l12, I_l13, I_l40, I_l43, I_l44, I_l45, I_l48, I_l57, I_l58, I_l60, I_l61, I_l62, I_l79, I_l80, I_l100, I_l101, I_l120, I_l200, I_l201, I_l1999, I_l2000, I_l2001, I_eq, if_pos, if_neg]
      exact obind (f3_pageOf (by omega)) rfl
    · refine ⟨cz hc, cz nc, cz pn, cz ls, I g, I (pgC (hgt c0 l0 c1 l1 L R w0 w1 h) (nts o0 o1 L R) ph g), I (Sm (emp c0 l0 c1 l1 L R w0 w1 h) g), obind e0 ((if_neg (by decide)).trans (obind e1 ((if_neg (by decide)).trans ?_)))⟩
      refine (if_neg (by decide)).trans (obind v2 ?_)
      rw [if_neg (by decide), if_neg (by decide), if_neg (by decide), if_neg (by decide), if_neg (by decide), if_neg (by decide), if_neg (by decide), if_pos rfl, ← v6.2.2.2]
      unfold pX9_group_j45
      simp (disch := omega) only [if_true, if_false, I_add, I_sub, I_mul, I_neg, I_ofNat, Option.bind_some, kIn, I_l0, I_l1, I_l2, I_l3, I_l4, I_l5, I_l6, I_l7, I_l8, I_l9, I_l10, I_l11, I_l12, I_l13, I_l40, I_l43, I_l44, I_l45, I_l48, I_l57, I_l58, I_l60, I_l61, I_l62, I_l79, I_l80, I_l100, I_l101, I_l120, I_l200, I_l201, I_l1999, I_l2000, I_l2001, I_eq, if_pos, if_neg]
      exact obind (f3_lineOf (by omega)) rfl
    · refine ⟨cz hc, cz nc, cz pn, cz ls, I g, I (pgC (hgt c0 l0 c1 l1 L R w0 w1 h) (nts o0 o1 L R) ph g), I (Sm (emp c0 l0 c1 l1 L R w0 w1 h) g), obind e0 ((if_neg (by decide)).trans (obind e1 ((if_neg (by decide)).trans ?_)))⟩
      refine (if_neg (by decide)).trans (obind v2 ?_)
      rw [if_neg (by decide), if_neg (by decide), if_neg (by decide), if_neg (by decide), if_neg (by decide), if_neg (by decide), if_neg (by decide), if_neg (by decide), if_pos rfl, ← v6.2.1]
      unfold pX9_group_j45
      simp (disch := omega) only [if_true, if_false, I_add, I_sub, I_mul, I_neg, I_ofNat, Option.bind_some, kIn, I_l0, I_l1, I_l2, I_l3, I_l4, I_l5, I_l6, I_l7, I_l8, I_l9, I_l10, I_l11, I_l12, I_l13, I_l40, I_l43, I_l44, I_l45, I_l48, I_l57, I_l58, I_l60, I_l61, I_l62, I_l79, I_l80, I_l100, I_l101, I_l120, I_l200, I_l201, I_l1999, I_l2000, I_l2001, I_eq, if_pos, if_neg]
      exact obind (f3_notesOf (by omega)) rfl
  · have e1 : pX9_isWithin (I y) (0 : Int32) (8 : Int32) = some (I 0) := by
      have := f9_isWithin (v := y) (lo := 0) (hi := 8) (by omega)
      rw [if_neg q2] at this
      exact this
    rw [if_neg (by omega : ¬ y = 0), if_neg (by omega : ¬ y = 1), if_neg (by omega : ¬ y = 2), if_neg (by omega : ¬ y = 3), if_neg (by omega : ¬ y = 4), if_neg (by omega : ¬ y = 5), if_neg (by omega : ¬ y = 6), if_neg (by omega : ¬ y = 7), if_neg (by omega : ¬ y = 8)]
    exact ⟨cz f4, cz f5, cz f6, cz f7, x8, I f9, x10, obind e0 ((if_neg (by decide)).trans (obind e1 (if_pos (by decide))))⟩
theorem t_groupN (k0 : okB n0 c0 l0 o0) (k1 : okB n1 c1 l1 o1) (kM : okM g L R n0 n1) (hw0 : 1 ≤ w0 ∧ w0 ≤ 200) (hw1 : 1 ≤ w1 ∧ w1 ≤ 200) (hh : 0 ≤ h ∧ h ≤ 5) (hph : 0 ≤ ph ∧ ph ≤ 200) (x4 x5 x6 x7 : Nat → Int32) (x8 x9 x10 : Int32) {p : Int} {i2 : Int32} (hp : -2147483648 ≤ p ∧ p ≤ 2147483647) (q : ¬ (0 ≤ p ∧ p < g)) : tY (pX9_group (cz c0) (cz l0) (cz o0) (I n0) (cz c1) (cz l1) (cz o1) (I n1) (cz L) (cz R) (I g) (I w0) (I w1) (I ph) (I h) x4 x5 x6 x7 x8 x9 x10 (I p) i2) (-1) := by
  have hg := kM.1
  have e0 := f1_hasF (n := g) (a := p) (by omega)
  unfold pX9_group
  exact ⟨x4, x5, x6, x7, x8, x9, x10, obind e0 (if_pos (by decide))⟩
def nA (t0 t1 m n g a0 a1 a2 a3 pp em kk y : Int) : Int := if y = 0 then t0 else if y = 1 then t1 else if y = 2 then m else if y = 3 then n else if y = 4 then g else if y = 5 then a0 else if y = 6 then a1 else if y = 7 then a2 else if y = 8 then a3 else if y = 9 then pp else if y = 10 then em else if y = 11 then kk else -2
theorem t_count (k0 : okB n0 c0 l0 o0) (k1 : okB n1 c1 l1 o1) (kM : okM g L R n0 n1) (hw0 : 1 ≤ w0 ∧ w0 ≤ 200) (hw1 : 1 ≤ w1 ∧ w1 ≤ 200) (hh : 0 ≤ h ∧ h ≤ 5) (hph : 0 ≤ ph ∧ ph ≤ 200) (x4 x5 x6 x7 : Nat → Int32) (x8 x9 x10 : Int32) {kk y : Int} (hy : -2147483648 ≤ y ∧ y ≤ 2147483647) : tY (pX9_count (cz c0) (cz l0) (cz o0) (I n0) (cz c1) (cz l1) (cz o1) (I n1) (cz L) (cz R) (I g) (I kk) (I w0) (I w1) (I ph) (I h) x4 x5 x6 x7 x8 x9 x10 (I y)) (nA (at0 c0 n0 (n0 - 1)) (at0 c1 n1 (n1 - 1)) n0 n1 g (ksm L R 0 g) (ksm L R 1 g) (ksm L R 2 g) (ksm L R 3 g) (pgC (hgt c0 l0 c1 l1 L R w0 w1 h) (nts o0 o1 L R) ph g) (Sm (emp c0 l0 c1 l1 L R w0 w1 h) g) kk y) := by
  obtain ⟨f4, rfl, -⟩ := cz_of x4
  obtain ⟨f5, rfl, -⟩ := cz_of x5
  obtain ⟨f6, rfl, -⟩ := cz_of x6
  obtain ⟨f7, rfl, -⟩ := cz_of x7
  obtain ⟨f9, -, rfl⟩ := I_of x9
  have hg := kM.1
  have b0 := k0.1
  have b1 := k1.1
  have hLb : ∀ i, 0 ≤ i → i < g → 0 ≤ L i ∧ L i ≤ 1000 := fun i s t => by have := (kM.2.1 i s t).1; omega
  have hRb : ∀ i, 0 ≤ i → i < g → 0 ≤ R i ∧ R i ≤ 1000 := fun i s t => by have := (kM.2.1 i s t).2.1; omega
  unfold pX9_count nA
  by_cases q2 : 0 ≤ y ∧ y ≤ 11
  · have e1 : pX9_isWithin (I y) (0 : Int32) (11 : Int32) = some (I 1) := by
      have := f9_isWithin (v := y) (lo := 0) (hi := 11) (by omega)
      rw [if_pos q2] at this
      exact this
    obtain ⟨hc, nc, pn, ls, v1, v2⟩ := f3_arrange (hc := f4) (nc := f5) (pn := f6) (ls := f7) (c9 := f9) k0 k1 kM hw0 hw1 hh (ph := ph) (by omega)
    have hyy : y = 0 ∨ y = 1 ∨ y = 2 ∨ y = 3 ∨ y = 4 ∨ y = 5 ∨ y = 6 ∨ y = 7 ∨ y = 8 ∨ y = 9 ∨ y = 10 ∨ y = 11 := by omega
    rcases hyy with rfl | rfl | rfl | rfl | rfl | rfl | rfl | rfl | rfl | rfl | rfl | rfl
    · refine ⟨cz f4, cz f5, cz f6, cz f7, x8, I f9, x10, obind e1 ((if_neg (by decide)).trans ?_)⟩
      rw [if_pos rfl]
      simp (disch := omega) only [if_true, if_false, I_add, I_sub, I_mul, I_neg, I_ofNat, Option.bind_some, kIn, I_l0, I_l1, I_l2, I_l3, I_l4, I_l5, I_l6, I_l7, I_l8, I_l9, I_l10, I_l11, I_l12, I_l13, I_l40, I_l43, I_l44, I_l45, I_l48, I_l57, I_l58, I_l60, I_l61, I_l62, I_l79, I_l80, I_l100, I_l101, I_l120, I_l200, I_l201, I_l1999, I_l2000, I_l2001, I_eq, if_pos, if_neg]
      exact obind (f0_chapterTotal (by omega)) rfl
    · refine ⟨cz f4, cz f5, cz f6, cz f7, x8, I f9, x10, obind e1 ((if_neg (by decide)).trans ?_)⟩
      rw [if_neg (by decide), if_pos rfl]
      simp (disch := omega) only [if_true, if_false, I_add, I_sub, I_mul, I_neg, I_ofNat, Option.bind_some, kIn, I_l0, I_l1, I_l2, I_l3, I_l4, I_l5, I_l6, I_l7, I_l8, I_l9, I_l10, I_l11, I_l12, I_l13, I_l40, I_l43, I_l44, I_l45, I_l48, I_l57, I_l58, I_l60, I_l61, I_l62, I_l79, I_l80, I_l100, I_l101, I_l120, I_l200, I_l201, I_l1999, I_l2000, I_l2001, I_eq, if_pos, if_neg]
      exact obind (f0_chapterTotal (by omega)) rfl
    · refine ⟨cz f4, cz f5, cz f6, cz f7, x8, I f9, x10, obind e1 ((if_neg (by decide)).trans ?_)⟩
      rw [if_neg (by decide), if_neg (by decide), if_pos rfl]
      simp (disch := omega) only [if_true, if_false, I_add, I_sub, I_mul, I_neg, I_ofNat, Option.bind_some, kIn, I_l0, I_l1, I_l2, I_l3, I_l4, I_l5, I_l6, I_l7, I_l8, I_l9, I_l10, I_l11, I_l12, I_l13, I_l40, I_l43, I_l44, I_l45, I_l48, I_l57, I_l58, I_l60, I_l61, I_l62, I_l79, I_l80, I_l100, I_l101, I_l120, I_l200, I_l201, I_l1999, I_l2000, I_l2001, I_eq, if_pos, if_neg]
    · refine ⟨cz f4, cz f5, cz f6, cz f7, x8, I f9, x10, obind e1 ((if_neg (by decide)).trans ?_)⟩
      rw [if_neg (by decide), if_neg (by decide), if_neg (by decide), if_pos rfl]
      simp (disch := omega) only [if_true, if_false, I_add, I_sub, I_mul, I_neg, I_ofNat, Option.bind_some, kIn, I_l0, I_l1, I_l2, I_l3, I_l4, I_l5, I_l6, I_l7, I_l8, I_l9, I_l10, I_l11, I_l12, I_l13, I_l40, I_l43, I_l44, I_l45, I_l48, I_l57, I_l58, I_l60, I_l61, I_l62, I_l79, I_l80, I_l100, I_l101, I_l120, I_l200, I_l201, I_l1999, I_l2000, I_l2001, I_eq, if_pos, if_neg]
    · refine ⟨cz f4, cz f5, cz f6, cz f7, x8, I f9, x10, obind e1 ((if_neg (by decide)).trans ?_)⟩
      rw [if_neg (by decide), if_neg (by decide), if_neg (by decide), if_neg (by decide), if_pos rfl]
      simp (disch := omega) only [if_true, if_false, I_add, I_sub, I_mul, I_neg, I_ofNat, Option.bind_some, kIn, I_l0, I_l1, I_l2, I_l3, I_l4, I_l5, I_l6, I_l7, I_l8, I_l9, I_l10, I_l11, I_l12, I_l13, I_l40, I_l43, I_l44, I_l45, I_l48, I_l57, I_l58, I_l60, I_l61, I_l62, I_l79, I_l80, I_l100, I_l101, I_l120, I_l200, I_l201, I_l1999, I_l2000, I_l2001, I_eq, if_pos, if_neg]
    · refine ⟨cz f4, cz f5, cz f6, cz f7, x8, I f9, x10, obind e1 ((if_neg (by decide)).trans ?_)⟩
      rw [if_neg (by decide), if_neg (by decide), if_neg (by decide), if_neg (by decide), if_neg (by decide), if_pos rfl]
      simp (disch := omega) only [if_true, if_false, I_add, I_sub, I_mul, I_neg, I_ofNat, Option.bind_some, kIn, I_l0, I_l1, I_l2, I_l3, I_l4, I_l5, I_l6, I_l7, I_l8, I_l9, I_l10, I_l11, I_l12, I_l13, I_l40, I_l43, I_l44, I_l45, I_l48, I_l57, I_l58, I_l60, I_l61, I_l62, I_l79, I_l80, I_l100, I_l101, I_l120, I_l200, I_l201, I_l1999, I_l2000, I_l2001, I_eq, if_pos, if_neg]
      exact obind (f1_kindTotal (x := 0) (by omega) hLb hRb) rfl
    · refine ⟨cz f4, cz f5, cz f6, cz f7, x8, I f9, x10, obind e1 ((if_neg (by decide)).trans ?_)⟩
      rw [if_neg (by decide), if_neg (by decide), if_neg (by decide), if_neg (by decide), if_neg (by decide), if_neg (by decide), if_pos rfl]
      simp (disch := omega) only [if_true, if_false, I_add, I_sub, I_mul, I_neg, I_ofNat, Option.bind_some, kIn, I_l0, I_l1, I_l2, I_l3, I_l4, I_l5, I_l6, I_l7, I_l8, I_l9, I_l10, I_l11, I_l12, I_l13, I_l40, I_l43, I_l44, I_l45, I_l48, I_l57, I_l58, I_l60, I_l61, I_l62, I_l79, I_l80, I_l100, I_l101, I_l120, I_l200, I_l201, I_l1999, I_l2000, I_l2001, I_eq, if_pos, if_neg]
      exact obind (f1_kindTotal (x := 1) (by omega) hLb hRb) rfl
    · refine ⟨cz f4, cz f5, cz f6, cz f7, x8, I f9, x10, obind e1 ((if_neg (by decide)).trans ?_)⟩
      rw [if_neg (by decide), if_neg (by decide), if_neg (by decide), if_neg (by decide), if_neg (by decide), if_neg (by decide), if_neg (by decide), if_pos rfl]
      simp (disch := omega) only [if_true, if_false, I_add, I_sub, I_mul, I_neg, I_ofNat, Option.bind_some, kIn, I_l0, I_l1, I_l2, I_l3, I_l4, I_l5, I_l6, I_l7, I_l8, I_l9, I_l10, I_l11, I_l12, I_l13, I_l40, I_l43, I_l44, I_l45, I_l48, I_l57, I_l58, I_l60, I_l61, I_l62, I_l79, I_l80, I_l100, I_l101, I_l120, I_l200, I_l201, I_l1999, I_l2000, I_l2001, I_eq, if_pos, if_neg]
      exact obind (f1_kindTotal (x := 2) (by omega) hLb hRb) rfl
    · refine ⟨cz f4, cz f5, cz f6, cz f7, x8, I f9, x10, obind e1 ((if_neg (by decide)).trans ?_)⟩
      rw [if_neg (by decide), if_neg (by decide), if_neg (by decide), if_neg (by decide), if_neg (by decide), if_neg (by decide), if_neg (by decide), if_neg (by decide), if_pos rfl]
      simp (disch := omega) only [if_true, if_false, I_add, I_sub, I_mul, I_neg, I_ofNat, Option.bind_some, kIn, I_l0, I_l1, I_l2, I_l3, I_l4, I_l5, I_l6, I_l7, I_l8, I_l9, I_l10, I_l11, I_l12, I_l13, I_l40, I_l43, I_l44, I_l45, I_l48, I_l57, I_l58, I_l60, I_l61, I_l62, I_l79, I_l80, I_l100, I_l101, I_l120, I_l200, I_l201, I_l1999, I_l2000, I_l2001, I_eq, if_pos, if_neg]
      exact obind (f1_kindTotal (x := 3) (by omega) hLb hRb) rfl
    · refine ⟨cz hc, cz nc, cz pn, cz ls, I g, I (pgC (hgt c0 l0 c1 l1 L R w0 w1 h) (nts o0 o1 L R) ph g), I (Sm (emp c0 l0 c1 l1 L R w0 w1 h) g), obind e1 ((if_neg (by decide)).trans ?_)⟩
      rw [if_neg (by decide), if_neg (by decide), if_neg (by decide), if_neg (by decide), if_neg (by decide), if_neg (by decide), if_neg (by decide), if_neg (by decide), if_neg (by decide), if_pos rfl]
      simp (disch := omega) only [if_true, if_false, I_add, I_sub, I_mul, I_neg, I_ofNat, Option.bind_some, kIn, I_l0, I_l1, I_l2, I_l3, I_l4, I_l5, I_l6, I_l7, I_l8, I_l9, I_l10, I_l11, I_l12, I_l13, I_l40, I_l43, I_l44, I_l45, I_l48, I_l57, I_l58, I_l60, I_l61, I_l62, I_l79, I_l80, I_l100, I_l101, I_l120, I_l200, I_l201, I_l1999, I_l2000, I_l2001, I_eq, if_pos, if_neg]
      exact obind (v2) rfl
    · refine ⟨cz hc, cz nc, cz pn, cz ls, I g, I (pgC (hgt c0 l0 c1 l1 L R w0 w1 h) (nts o0 o1 L R) ph g), I (Sm (emp c0 l0 c1 l1 L R w0 w1 h) g), obind e1 ((if_neg (by decide)).trans ?_)⟩
      rw [if_neg (by decide), if_neg (by decide), if_neg (by decide), if_neg (by decide), if_neg (by decide), if_neg (by decide), if_neg (by decide), if_neg (by decide), if_neg (by decide), if_neg (by decide), if_pos rfl]
      simp (disch := omega) only [if_true, if_false, I_add, I_sub, I_mul, I_neg, I_ofNat, Option.bind_some, kIn, I_l0, I_l1, I_l2, I_l3, I_l4, I_l5, I_l6, I_l7, I_l8, I_l9, I_l10, I_l11, I_l12, I_l13, I_l40, I_l43, I_l44, I_l45, I_l48, I_l57, I_l58, I_l60, I_l61, I_l62, I_l79, I_l80, I_l100, I_l101, I_l120, I_l200, I_l201, I_l1999, I_l2000, I_l2001, I_eq, if_pos, if_neg]
      exact obind (v2) rfl
    · refine ⟨cz f4, cz f5, cz f6, cz f7, x8, I f9, x10, obind e1 ((if_neg (by decide)).trans ?_)⟩
      rw [if_neg (by decide), if_neg (by decide), if_neg (by decide), if_neg (by decide), if_neg (by decide), if_neg (by decide), if_neg (by decide), if_neg (by decide), if_neg (by decide), if_neg (by decide), if_neg (by decide), if_pos rfl]
      simp (disch := omega) only [if_true, if_false, I_add, I_sub, I_mul, I_neg, I_ofNat, Option.bind_some, kIn, I_l0, I_l1, I_l2, I_l3, I_l4, I_l5, I_l6, I_l7, I_l8, I_l9, I_l10, I_l11, I_l12, I_l13, I_l40, I_l43, I_l44, I_l45, I_l48, I_l57, I_l58, I_l60, I_l61, I_l62, I_l79, I_l80, I_l100, I_l101, I_l120, I_l200, I_l201, I_l1999, I_l2000, I_l2001, I_eq, if_pos, if_neg]
  · have e1 : pX9_isWithin (I y) (0 : Int32) (11 : Int32) = some (I 0) := by
      have := f9_isWithin (v := y) (lo := 0) (hi := 11) (by omega)
      rw [if_neg q2] at this
      exact this
    rw [if_neg (by omega : ¬ y = 0), if_neg (by omega : ¬ y = 1), if_neg (by omega : ¬ y = 2), if_neg (by omega : ¬ y = 3), if_neg (by omega : ¬ y = 4), if_neg (by omega : ¬ y = 5), if_neg (by omega : ¬ y = 6), if_neg (by omega : ¬ y = 7), if_neg (by omega : ¬ y = 8), if_neg (by omega : ¬ y = 9), if_neg (by omega : ¬ y = 10), if_neg (by omega : ¬ y = 11)]
    exact ⟨cz f4, cz f5, cz f6, cz f7, x8, I f9, x10, obind e1 (if_pos (by decide))⟩
end TQ2
