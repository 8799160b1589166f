-- out of 66.fmeas
-- what stands beside the verses from fi to la: both sides alike
theorem f5_takeOther {oF oL oV a s : Int} (h : (-100000 ≤ oV ∧ oV ≤ 100000) ∧ (-100000 ≤ a ∧ a ≤ 100000) ∧ 0 ≤ s ∧ s ≤ 100000) : pX5_takeOther (I oF) (I oL) (I oV) (I a) (I (a + s)) = some (I (if s = 0 then oF else if oV = 0 then a else oF), I (if s = 0 then oL else a + s - 1), I (oV + s)) := by
  unfold pX5_takeOther pX5_takeOther_j18
  by_cases z : s = 0
  · subst z
    rw [if_pos (by rw [Int.add_zero]), if_pos rfl, if_pos rfl, Int.add_zero]
  · rw [if_neg (fun t => z (by rw [I_eq (by omega)] at t; omega)), if_neg z, if_neg z]
    by_cases z2 : oV = 0
    · simp (disch := omega) only [if_true, if_false, I_add, I_sub, I_mul, I_neg, I_ofNat, Option.bind_some, kIn, I_l0, I_l1, I_l2, I_l3, I_l4, I_l5, I_l6, I_l7, I_l8, I_l9, I_l10, I_l11, I_l12, I_l13, I_l40, I_l43, I_l44, I_l45, I_l48, I_l57, I_l58, I_l60, I_l61, I_l62, I_l79, I_l80, I_l100, I_l101, I_l120, I_l200, I_l201, I_l1999, I_l2000, I_l2001, I_le, I_lt, I_eq, I_toInt, cz_at, cz_up, if_pos, if_neg]
      rw [show oV + (a + s - a) = oV + s by omega]
    · simp (disch := omega) only [if_true, if_false, I_add, I_sub, I_mul, I_neg, I_ofNat, Option.bind_some, kIn, I_l0, I_l1, I_l2, I_l3, I_l4, I_l5, I_l6, I_l7, I_l8, I_l9, I_l10, I_l11, I_l12, I_l13, I_l40, I_l43, I_l44, I_l45, I_l48, I_l57, I_l58, I_l60, I_l61, I_l62, I_l79, I_l80, I_l100, I_l101, I_l120, I_l200, I_l201, I_l1999, I_l2000, I_l2001, I_le, I_lt, I_eq, I_toInt, cz_at, cz_up, if_pos, if_neg]
      rw [show oV + (a + s - a) = oV + s by omega]
def prp (y fi la E2 E3 E4 E5 E6 : Int) : Int := if y = 0 then fi else if y = 1 then la else if y = 2 then E3 else if y = 3 then E4 else if y = 4 then E2 else if y = 5 then E5 else if E6 = la - fi + 1 then 1 else 0
theorem f5_property {y fi la E2 E3 E4 E5 E6 : Int} (hy : 0 ≤ y ∧ y ≤ 6) (h : (-100000 ≤ fi ∧ fi ≤ 100000) ∧ (-100000 ≤ la ∧ la ≤ 100000) ∧ -100000 ≤ E6 ∧ E6 ≤ 100000) : pX5_property (I fi) (I la) (I E2) (I E3) (I E4) (I E5) (I E6) (I y) = some (I (prp y fi la E2 E3 E4 E5 E6)) := by
  unfold pX5_property prp
  simp (disch := omega) only [if_true, if_false, I_add, I_sub, I_mul, I_neg, I_ofNat, Option.bind_some, kIn, I_l0, I_l1, I_l2, I_l3, I_l4, I_l5, I_l6, I_l7, I_l8, I_l9, I_l10, I_l11, I_l12, I_l13, I_l40, I_l43, I_l44, I_l45, I_l48, I_l57, I_l58, I_l60, I_l61, I_l62, I_l79, I_l80, I_l100, I_l101, I_l120, I_l200, I_l201, I_l1999, I_l2000, I_l2001, I_eq]
  by_cases y0 : y = 0
  · rw [if_pos y0, if_pos y0]
  · rw [if_neg y0, if_neg y0]
    by_cases y1 : y = 1
    · rw [if_pos y1, if_pos y1]
    · rw [if_neg y1, if_neg y1]
      by_cases y2 : y = 2
      · rw [if_pos y2, if_pos y2]
      · rw [if_neg y2, if_neg y2]
        by_cases y3 : y = 3
        · rw [if_pos y3, if_pos y3]
        · rw [if_neg y3, if_neg y3]
          by_cases y4 : y = 4
          · rw [if_pos y4, if_pos y4]
          · rw [if_neg y4, if_neg y4]
            by_cases y5 : y = 5
            · rw [if_pos y5, if_pos y5]
            · rw [if_neg y5, if_neg y5]
              by_cases y6 : E6 = la - fi + 1
              · rw [if_pos y6, if_pos y6]
              · rw [if_neg y6, if_neg y6]
section REF
variable {W : Int → Int} {vL0 vL1 vL2 : Nat → Int32} {vL3 : Int32} {vR0 vR1 vR2 : Nat → Int32} {vR3 : Int32} {vM0 vM1 : Nat → Int32} {vM2 : Int32} {t0 : Nat → Int32} {t1 d3 : Int32} {d4 : Nat → Int32}
end REF

-- out of 67.fitem
-- one item of a map that is read: both sides alike, or both fail at the same place
theorem f8_hasFault0 : pX8_hasFault (I (-1)) = some (I 0) := rfl
theorem f8_hasFault1 {f : Int} (h : 0 ≤ f ∧ f ≤ 1000) : pX8_hasFault (I f) = some (I 1) := by
  unfold pX8_hasFault
  simp (disch := omega) only [if_true, if_false, I_add, I_sub, I_mul, I_neg, I_ofNat, Option.bind_some, kIn, I_l0, I_l1, I_l2, I_l3, I_l4, I_l5, I_l6, I_l7, I_l8, I_l9, I_l10, I_l11, I_l12, I_l13, I_l40, I_l43, I_l44, I_l45, I_l48, I_l57, I_l58, I_l60, I_l61, I_l62, I_l79, I_l80, I_l100, I_l101, I_l120, I_l200, I_l201, I_l1999, I_l2000, I_l2001, I_eq, if_neg]
def sgn4 (c : Int) : Prop := c = 61 ∨ c = 60 ∨ c = 62 ∨ c = 43
theorem f8_sign36 {S S2 : Int → Int} {n p f : Int} (h : tx S S2 n) (hp : 0 ≤ p ∧ p < n) : pX8_readSign_j36 (cz S) (I n) (I p) (I f) = some (I (S p), I (p + 1), I f) := by
  have hn := h.1
  have hs := h.s p hp.1 hp.2
  have e1 : (I p + (1 : Int32)) - (1 : Int32) = I p := by
    simp only [if_true, if_false, I_add, I_sub, I_mul, I_neg, I_ofNat, Option.bind_some, kIn, I_l0, I_l1, I_l2, I_l3, I_l4, I_l5, I_l6, I_l7, I_l8, I_l9, I_l10, I_l11, I_l12, I_l13, I_l40, I_l43, I_l44, I_l45, I_l48, I_l57, I_l58, I_l60, I_l61, I_l62, I_l79, I_l80, I_l100, I_l101, I_l120, I_l200, I_l201, I_l1999, I_l2000, I_l2001]
    rw [show p + 1 - 1 = p by omega]
  have e2 : pX8_signAt (cz S) (I n) ((I p + (1 : Int32)) - (1 : Int32)) = some (I (S p)) := by rw [e1, f8_signAt (by omega) h.s, at0_in hp]
  have e3 : I p + (1 : Int32) = I (p + 1) := by simp only [if_true, if_false, I_add, I_sub, I_mul, I_neg, I_ofNat, Option.bind_some, kIn, I_l0, I_l1, I_l2, I_l3, I_l4, I_l5, I_l6, I_l7, I_l8, I_l9, I_l10, I_l11, I_l12, I_l13, I_l40, I_l43, I_l44, I_l45, I_l48, I_l57, I_l58, I_l60, I_l61, I_l62, I_l79, I_l80, I_l100, I_l101, I_l120, I_l200, I_l201, I_l1999, I_l2000, I_l2001]
  unfold pX8_readSign_j36
  refine obind e2 ((if_pos (nar_char hs)).trans ?_)
  rw [e3]
theorem f8_standsC {S S2 : Int → Int} {n p c d : Int} (h : tx S S2 n) (hp : 0 ≤ p ∧ p < n) (hc : S p = c) (hd : 0 ≤ d ∧ d ≤ 65535) : pX8_stands (cz S) (I n) (I p) (I (-1)) (I d) = some (I (if c = d then 1 else 0)) := by
  have hn := h.1
  rw [f8_stands (by omega) h.s]
  by_cases z : c = d
  · rw [if_pos ⟨rfl, hp.2, by omega⟩, if_pos z]
  · rw [if_neg (fun t => z (by omega)), if_neg z]
theorem f8_readSignY {S S2 : Int → Int} {n p c : Int} (h : tx S S2 n) (hp : 0 ≤ p ∧ p < n) (hc : S p = c) (h4 : sgn4 c) : pX8_readSign (cz S) (I n) (I p) (I (-1)) = some (I c, I (p + 1), I (-1)) := by
  have e := f8_sign36 (f := -1) h hp
  rw [hc] at e
  have e1 : pX8_stands (cz S) (I n) (I p) (I (-1)) (61 : Int32) = _ := f8_standsC (d := 61) h hp hc (by omega)
  have e2 : pX8_stands (cz S) (I n) (I p) (I (-1)) (60 : Int32) = _ := f8_standsC (d := 60) h hp hc (by omega)
  have e3 : pX8_stands (cz S) (I n) (I p) (I (-1)) (62 : Int32) = _ := f8_standsC (d := 62) h hp hc (by omega)
  have e4 : pX8_stands (cz S) (I n) (I p) (I (-1)) (43 : Int32) = _ := f8_standsC (d := 43) h hp hc (by omega)
  clear hc
  unfold pX8_readSign
  rcases h4 with rfl | rfl | rfl | rfl
  · exact obind e1 ((if_neg (by first | decide | (dsimp only; decide))).trans e)
  · exact obind e1 ((if_pos (by first | decide | rfl)).trans (obind e2 ((if_neg (by first | decide | (dsimp only; decide))).trans e)))
  · exact obind e1 ((if_pos (by first | decide | rfl)).trans (obind e2 ((if_pos (by first | decide | rfl)).trans (obind e3 ((if_neg (by first | decide | (dsimp only; decide))).trans e)))))
  · exact obind e1 ((if_pos (by first | decide | rfl)).trans (obind e2 ((if_pos (by first | decide | rfl)).trans (obind e3 ((if_pos (by first | decide | rfl)).trans (obind e4 ((if_neg (by first | decide | (dsimp only; decide))).trans e)))))))
theorem f8_readSignN {S S2 : Int → Int} {n p f : Int} (h : tx S S2 n) (hp : 0 ≤ p ∧ p ≤ n) (hf : -1 ≤ f ∧ f ≤ 100) (h4 : ¬ (f = -1 ∧ p < n ∧ sgn4 (S p))) : pX8_readSign (cz S) (I n) (I p) (I f) = some (I 0, I p, I (flt f p)) := by
  have hn := h.1
  have st : ∀ d, (d = 61 ∨ d = 60 ∨ d = 62 ∨ d = 43) → pX8_stands (cz S) (I n) (I p) (I f) (I d) = some (I 0) := by
    intro d hd
    rw [f8_stands (by omega) h.s, if_neg (fun t => h4 ⟨t.1, t.2.1, by unfold sgn4; omega⟩)]
  have e1 : pX8_stands (cz S) (I n) (I p) (I f) (61 : Int32) = _ := st 61 (by omega)
  have e2 : pX8_stands (cz S) (I n) (I p) (I f) (60 : Int32) = _ := st 60 (by omega)
  have e3 : pX8_stands (cz S) (I n) (I p) (I f) (62 : Int32) = _ := st 62 (by omega)
  have e4 : pX8_stands (cz S) (I n) (I p) (I f) (43 : Int32) = _ := st 43 (by omega)
  have e5 := f8_failAt (f := f) (i := p) (by omega)
  unfold pX8_readSign
  exact obind e1 ((if_pos (by first | decide | rfl)).trans (obind e2 ((if_pos (by first | decide | rfl)).trans (obind e3 ((if_pos (by first | decide | rfl)).trans (obind e4 ((if_pos (by first | decide | rfl)).trans (obind e5 rfl))))))))
theorem f4_useY {a d f ns x y : Int} (h : (0 ≤ x ∧ x ≤ a ∧ a ≤ 1000) ∧ 0 ≤ y ∧ y ≤ d ∧ d ≤ 1000) : pX4_use (I a) (I d) (I f) (I ns) (I x) (I y) = some (I (a - x), I (d - y), I f) := by
  unfold pX4_use
  simp (disch := omega) only [if_true, if_false, I_add, I_sub, I_mul, I_neg, I_ofNat, Option.bind_some, kIn, I_l0, I_l1, I_l2, I_l3, I_l4, I_l5, I_l6, I_l7, I_l8, I_l9, I_l10, I_l11, I_l12, I_l13, I_l40, I_l43, I_l44, I_l45, I_l48, I_l57, I_l58, I_l60, I_l61, I_l62, I_l79, I_l80, I_l100, I_l101, I_l120, I_l200, I_l201, I_l1999, I_l2000, I_l2001, I_le, I_lt, if_pos, if_neg]
theorem f4_useN {a d f ns x y : Int} (h : (0 ≤ a ∧ a ≤ 1000) ∧ (0 ≤ d ∧ d ≤ 1000) ∧ (0 ≤ x ∧ x ≤ 1000) ∧ 0 ≤ y ∧ y ≤ 1000) (hf : -1 ≤ f ∧ f ≤ 1000) (hn : ¬ (x ≤ a ∧ y ≤ d)) : pX4_use (I a) (I d) (I f) (I ns) (I x) (I y) = some (I a, I d, I (flt f ns)) := by
  have e := f8_failAtNumber (f := f) (i := ns) (by omega)
  unfold pX4_use
  by_cases z : x ≤ a
  · simp (disch := omega) only [if_true, if_false, I_add, I_sub, I_mul, I_neg, I_ofNat, Option.bind_some, kIn, I_l0, I_l1, I_l2, I_l3, I_l4, I_l5, I_l6, I_l7, I_l8, I_l9, I_l10, I_l11, I_l12, I_l13, I_l40, I_l43, I_l44, I_l45, I_l48, I_l57, I_l58, I_l60, I_l61, I_l62, I_l79, I_l80, I_l100, I_l101, I_l120, I_l200, I_l201, I_l1999, I_l2000, I_l2001, I_le, I_lt, if_neg, e]
  · simp (disch := omega) only [if_true, if_false, I_add, I_sub, I_mul, I_neg, I_ofNat, Option.bind_some, kIn, I_l0, I_l1, I_l2, I_l3, I_l4, I_l5, I_l6, I_l7, I_l8, I_l9, I_l10, I_l11, I_l12, I_l13, I_l40, I_l43, I_l44, I_l45, I_l48, I_l57, I_l58, I_l60, I_l61, I_l62, I_l79, I_l80, I_l100, I_l101, I_l120, I_l200, I_l201, I_l1999, I_l2000, I_l2001, I_le, I_lt, if_pos, e]
-- the class's groups of one kind
theorem f4_addY {A B : Int → Int} {gm v l r a d : Int} {ns : Int32} (hg : 0 ≤ gm ∧ gm + v ≤ 120) (hv : 0 ≤ v) : ∀ (m : Nat) (G H : Int → Int) (k : Int), 0 ≤ k → k ≤ v → v - k < m → (∀ i, 0 ≤ i → i < gm + k → G i = exf A gm l i) → (∀ i, 0 ≤ i → i < gm + k → H i = exf B gm r i) → ∃ G2 H2 : Int → Int, (∀ i, 0 ≤ i → i < gm + v → G2 i = exf A gm l i) ∧ (∀ i, 0 ≤ i → i < gm + v → H2 i = exf B gm r i) ∧ pX4_addGroups_L15 ns m (I a) (I d) (cz G) (cz H) (I (gm + k)) (I (-1)) (I v) (I l) (I r) (I k) = some (I a, I d, cz G2, cz H2, I (gm + v), I (-1)) := by
  intro m
  induction m with
  | zero => intro G H k h0 h1 h2; omega
  | succ m ih =>
    intro G H k h0 h1 h2 hG hH
    by_cases z : k = v
    · subst z
      have z1 : I k ≤ I k := by rw [I_le (by omega)]; omega
      exact ⟨G, H, hG, hH, if_pos z1⟩
    · have z1 : ¬ I v ≤ I k := by rw [I_le (by omega)]; omega
      obtain ⟨G2, H2, q1, q2, q3⟩ := ih (up G (gm + k) l) (up H (gm + k) r) (k + 1) (by omega) (by omega) (by omega) (exf_up2 h0 hG) (exf_up2 h0 hH)
      refine ⟨G2, H2, q1, q2, ?_⟩
      have e1 := f1_append (L := G) (R := H) (g := gm + k) (x := l) (y := r) (by omega)
      have e2 : I k + (1 : Int32) = I (k + 1) := by simp only [if_true, if_false, I_add, I_sub, I_mul, I_neg, I_ofNat, Option.bind_some, kIn, I_l0, I_l1, I_l2, I_l3, I_l4, I_l5, I_l6, I_l7, I_l8, I_l9, I_l10, I_l11, I_l12, I_l13, I_l40, I_l43, I_l44, I_l45, I_l48, I_l57, I_l58, I_l60, I_l61, I_l62, I_l79, I_l80, I_l100, I_l101, I_l120, I_l200, I_l201, I_l1999, I_l2000, I_l2001]
      rw [show gm + (k + 1) = gm + k + 1 by omega, ← e2] at q3
      exact (if_neg z1).trans (obind f8_hasFault0 ((if_pos (by first | decide | rfl)).trans (obind e1 q3)))
theorem f4_addB {A B : Nat → Int32} {gm v f : Int} {ns l r a d : Int32} (hf : 0 ≤ f ∧ f ≤ 1000) : pX4_addGroups_L15 ns 4000 a d A B (I gm) (I f) (I v) l r (0 : Int32) = some (a, d, A, B, I gm, I f) := by
  show pX4_addGroups_bL15 ns (pX4_addGroups_L15 ns 3999) a d A B (I gm) (I f) (I v) l r (0 : Int32) = _
  by_cases z : I v ≤ (0 : Int32)
  · exact if_pos z
  · exact (if_neg z).trans (obind (f8_hasFault1 hf) (if_neg (by first | decide | (dsimp only; decide))))
theorem f4_addGroupsY {A B : Int → Int} {gm v l r a d ns : Int} (hg : 0 ≤ gm ∧ gm + v ≤ 120) (hv : 0 ≤ v ∧ v ≤ 100) (hl : l = 0 ∨ l = 1) (hr : r = 0 ∨ r = 1) (ha : v * l ≤ a ∧ a ≤ 1000) (hd : v * r ≤ d ∧ d ≤ 1000) : ∃ G2 H2 : Int → Int, (∀ i, 0 ≤ i → i < gm + v → G2 i = exf A gm l i) ∧ (∀ i, 0 ≤ i → i < gm + v → H2 i = exf B gm r i) ∧ pX4_addGroups (I a) (I d) (cz A) (cz B) (I gm) (I (-1)) (I ns) (I v) (I l) (I r) = some (I (a - v * l), I (d - v * r), cz G2, cz H2, I (gm + v), I (-1)) := by
  obtain ⟨G2, H2, q1, q2, q3⟩ := f4_addY (A := A) (B := B) (gm := gm) (v := v) (l := l) (r := r) (a := a - v * l) (d := d - v * r) (ns := I ns) hg hv.1 4000 A B 0 (by omega) hv.1 (by omega) (fun i p q => (exf_lo (by omega)).symm) (fun i p q => (exf_lo (by omega)).symm)
  have b1 : 0 ≤ v * l := by rcases hl with rfl | rfl <;> omega
  have b2 : 0 ≤ v * r := by rcases hr with rfl | rfl <;> omega
  have e1 := f4_useY (a := a) (d := d) (f := -1) (ns := ns) (x := v * l) (y := v * r) (by omega)
  rw [← I_mul, ← I_mul] at e1
  rw [Int.add_zero] at q3
  exact ⟨G2, H2, q1, q2, obind e1 q3⟩
theorem f4_addGroupsN {A B : Nat → Int32} {gm v l r a d ns : Int} (hv : 0 ≤ v ∧ v ≤ 100) (hl : l = 0 ∨ l = 1) (hr : r = 0 ∨ r = 1) (ha : 0 ≤ a ∧ a ≤ 1000) (hd : 0 ≤ d ∧ d ≤ 1000) (hn : 0 ≤ ns ∧ ns ≤ 1000) (h : ¬ (v * l ≤ a ∧ v * r ≤ d)) : pX4_addGroups (I a) (I d) A B (I gm) (I (-1)) (I ns) (I v) (I l) (I r) = some (I a, I d, A, B, I gm, I ns) := by
  have b1 : 0 ≤ v * l ∧ v * l ≤ 100 := by rcases hl with rfl | rfl <;> omega
  have b2 : 0 ≤ v * r ∧ v * r ≤ 100 := by rcases hr with rfl | rfl <;> omega
  have e1 := f4_useN (a := a) (d := d) (f := -1) (ns := ns) (x := v * l) (y := v * r) (by omega) (by omega) h
  rw [← I_mul, ← I_mul, flt_1] at e1
  exact obind e1 (f4_addB hn)
-- the reference's groups of one kind
-- the reference's sign behind the number
-- out of 68.fitem2
-- an item of a map, from a place where there is no fault
def iR (n0 n1 gm a d : Int) (A B : Int → Int) : Prop := (0 ≤ gm ∧ gm ≤ 120) ∧ (0 ≤ a ∧ 0 ≤ d) ∧ (∀ i, 0 ≤ i → i < gm → 0 ≤ A i ∧ 0 ≤ B i ∧ 1 ≤ A i + B i) ∧ Sm A gm = n0 - a ∧ Sm B gm = n1 - d
theorem iR.g {n0 n1 gm a d : Int} {A B : Int → Int} (h : iR n0 n1 gm a d A B) : gm ≤ n0 - a + (n1 - d) ∧ 0 ≤ n0 - a ∧ 0 ≤ n1 - d := by
  obtain ⟨h1, h2, h3, h4, h5⟩ := h
  have s1 := Sm_add (F := A) (G := B) h1.1
  have s2 := Sm_lo (F := fun i => A i + B i) (c := 1) h1.1 (fun i p q => (h3 i p q).2.2)
  have s3 := Sm_nn (F := A) h1.1 (fun i p q => (h3 i p q).1)
  have s4 := Sm_nn (F := B) h1.1 (fun i p q => (h3 i p q).2.1)
  omega
theorem iR.many {n0 n1 gm a d v l r : Int} {A B G H : Int → Int} (h : iR n0 n1 gm a d A B) (hn : n0 ≤ 60 ∧ n1 ≤ 60) (hv : 0 ≤ v) (hl : l = 0 ∨ l = 1) (hr : r = 0 ∨ r = 1) (hlr : 1 ≤ l + r) (ha : v * l ≤ a) (hd : v * r ≤ d) (hG : ∀ i, 0 ≤ i → i < gm + v → G i = exf A gm l i) (hH : ∀ i, 0 ≤ i → i < gm + v → H i = exf B gm r i) : iR n0 n1 (gm + v) (a - v * l) (d - v * r) G H := by
  have hg := h.g
  obtain ⟨h1, h2, h3, h4, h5⟩ := h
  have m1 : l * v = v * l := Int.mul_comm _ _
  have m2 : r * v = v * r := Int.mul_comm _ _
  have x1 : Sm G (gm + v) = Sm A gm + l * v := (Sm_congr (by omega) hG).trans (Sm_exf h1.1 hv)
  have x2 : Sm H (gm + v) = Sm B gm + r * v := (Sm_congr (by omega) hH).trans (Sm_exf h1.1 hv)
  have x3 : v ≤ v * l + v * r := by rcases hl with rfl | rfl <;> rcases hr with rfl | rfl <;> omega
  refine ⟨by omega, by omega, fun i p q => ?_, by omega, by omega⟩
  rw [hG i p q, hH i p q]
  by_cases z : i < gm
  · rw [exf_lo z, exf_lo z]
    exact h3 i p z
  · rw [exf_hi (by omega), exf_hi (by omega)]
    omega
theorem iR.one {n0 n1 gm a d x y : Int} {A B : Int → Int} (h : iR n0 n1 gm a d A B) (hn : n0 ≤ 60 ∧ n1 ≤ 60) (hx : 0 ≤ x ∧ x ≤ a) (hy : 0 ≤ y ∧ y ≤ d) (hxy : 1 ≤ x + y) : iR n0 n1 (gm + 1) (a - x) (d - y) (up A gm x) (up B gm y) := by
  have hg := h.g
  obtain ⟨h1, h2, h3, h4, h5⟩ := h
  have x1 : Sm (up A gm x) (gm + 1) = Sm A gm + x := by
    rw [Sm_s h1.1, up_at rfl, Sm_congr h1.1 (fun i p q => up_ne (by omega))]
  have x2 : Sm (up B gm y) (gm + 1) = Sm B gm + y := by
    rw [Sm_s h1.1, up_at rfl, Sm_congr h1.1 (fun i p q => up_ne (by omega))]
  refine ⟨by omega, by omega, fun i p q => ?_, by omega, by omega⟩
  by_cases z : i = gm
  · rw [up_at z, up_at z]
    omega
  · rw [up_ne z, up_ne z]
    exact h3 i p (by omega)
def itm (n0 n1 n p : Int) (C : Option (Int32 × Int32 × (Nat → Int32) × (Nat → Int32) × Int32 × Int32 × Int32 × Int32 × Int32)) (R : Option (Int32 × Int32 × Int32 × Int32 × Int32 × Int32 × (Nat → Int32) × (Nat → Int32))) : Prop :=
  (∃ (p2 gm a d : Int) (A B P Q : Int → Int) (nu ns y7 : Int32), (p < p2 ∧ p2 ≤ n) ∧ iR n0 n1 gm a d A B ∧ (∀ i, 0 ≤ i → i < gm → P i = A i ∧ Q i = B i) ∧ C = some (I a, I d, cz A, cz B, I gm, I p2, I (-1), nu, ns) ∧ R = some (I p2, I 1, y7, I a, I d, I gm, cz P, cz Q)) ∨
  (∃ (F p2 a d : Int) (A B : Nat → Int32) (gm nu ns y7 z8 z9 z10 : Int32) (P Q : Nat → Int32), (0 ≤ F ∧ F ≤ 80) ∧ (0 ≤ p2 ∧ p2 ≤ n) ∧ (0 ≤ a ∧ a ≤ 60) ∧ (0 ≤ d ∧ d ≤ 60) ∧ C = some (I a, I d, A, B, gm, I p2, I F, nu, ns) ∧ R = some (I F, I 0, y7, z8, z9, z10, P, Q))
-- the class's item behind a fault changes no more than the place
theorem f4_itemB {S S2 : Int → Int} {n p f : Int} {a d gm : Int32} {A B : Nat → Int32} (hT : tx S S2 n) (hp : 0 ≤ p ∧ p ≤ n) (hf : 0 ≤ f ∧ f ≤ 80) : ∃ (p2 : Int) (nu ns : Int32), (0 ≤ p2 ∧ p2 ≤ n) ∧ pX4_readItem a d A B gm (cz S) (I n) (I p) (I f) = some (a, d, A, B, gm, I p2, I f, nu, ns) := by
  have hn := hT.1
  obtain ⟨p2, v, hp2, hv, e1⟩ := f8_readNumberB (S := S) (p := p) (f := f) ⟨hn, hp, hf⟩ hT.s
  have e2 := f8_readSignN hT (p := p2) (f := f) (by omega) (by omega) (fun t => by omega)
  rw [flt_2 (by omega)] at e2
  exact ⟨p2, _, _, hp2, obind e1 (obind e2 ((if_neg (by first | decide | (dsimp only; decide))).trans ((if_neg (by first | decide | (dsimp only; decide))).trans ((if_neg (by first | decide | (dsimp only; decide))).trans (if_neg (by first | decide | (dsimp only; decide)))))))⟩

-- out of 69.freadmap
-- a map read: both sides alike
theorem f4_j70B {A B : Nat → Int32} {S : Int → Int} {n a d f : Int} {gm p x4 x5 l3 r3 : Int32} (hf : 0 ≤ f ∧ f ≤ 1000) : pX4_read_j70 (cz S) (I n) l3 r3 (I a) (I d) A B gm p (I f) x4 x5 = some (I f, I a, I d, A, B, gm, p, I f, x4, x5) := by
  have e := f8_failAt (f := f) (i := n) (by omega)
  rw [flt_2 hf.1] at e
  have fin : pX4_read_j84 (cz S) (I n) l3 r3 (I a) (I d) A B gm p (I f) x4 x5 = some (I f, I a, I d, A, B, gm, p, I f, x4, x5) := obind e rfl
  unfold pX4_read_j70
  by_cases z : (0 : Int32) < I a
  · exact (if_pos z).trans fin
  · by_cases z2 : I d ≤ (0 : Int32)
    · exact (if_neg z).trans (if_pos z2)
    · exact (if_neg z).trans ((if_neg z2).trans fin)
theorem f4_j70N {A B : Nat → Int32} {S : Int → Int} {n a d : Int} {gm p x4 x5 l3 r3 : Int32} (ha : (0 ≤ a ∧ a ≤ 1000) ∧ 0 ≤ d ∧ d ≤ 1000) (h : 0 < a + d) : pX4_read_j70 (cz S) (I n) l3 r3 (I a) (I d) A B gm p (I (-1)) x4 x5 = some (I n, I a, I d, A, B, gm, p, I n, x4, x5) := by
  have e := f8_failAt (f := -1) (i := n) (by omega)
  rw [flt_1] at e
  have fin : pX4_read_j84 (cz S) (I n) l3 r3 (I a) (I d) A B gm p (I (-1)) x4 x5 = some (I n, I a, I d, A, B, gm, p, I n, x4, x5) := obind e rfl
  unfold pX4_read_j70
  by_cases z : 0 < a
  · exact (if_pos (by rw [I_l0, I_lt (by omega)]; exact z)).trans fin
  · exact (if_neg (by rw [I_l0, I_lt (by omega)]; exact z)).trans ((if_neg (by rw [I_l0, I_le (by omega)]; omega)).trans fin)
theorem f4_j70Y {A B : Nat → Int32} {S : Int → Int} {n : Int} {gm p x4 x5 l3 r3 : Int32} : pX4_read_j70 (cz S) (I n) l3 r3 (I 0) (I 0) A B gm p (I (-1)) x4 x5 = some (I (-1), I 0, I 0, A, B, gm, p, I (-1), x4, x5) := (if_neg (by first | decide | (dsimp only; decide))).trans (if_pos (by first | decide | rfl))
theorem f4_L40B {A B : Nat → Int32} {S : Int → Int} {n a d f p k : Int} {gm x4 x5 l3 r3 : Int32} (m : Nat) (hn : 0 ≤ n ∧ n ≤ 80) (hp : 0 ≤ p ∧ p ≤ n) (hf : 0 ≤ f ∧ f ≤ 80) : pX4_read_L40 (cz S) (I n) l3 r3 (m + 1) (I a) (I d) A B gm (I p) (I f) x4 x5 (I k) = some (I f, I a, I d, A, B, gm, I p, I f, x4, x5) := by
  show pX4_read_bL40 (cz S) (I n) l3 r3 (pX4_read_L40 (cz S) (I n) l3 r3 m) (I a) (I d) A B gm (I p) (I f) x4 x5 (I k) = _
  have fin := f4_j70B (A := A) (B := B) (S := S) (n := n) (a := a) (d := d) (f := f) (gm := gm) (p := I p) (x4 := x4) (x5 := x5) (l3 := l3) (r3 := r3) (by omega)
  by_cases z : (80 : Int32) ≤ I k
  · exact (if_pos z).trans fin
  · have e : pX8_goesOn (I n) (I p) (I f) = some (I 0) := by rw [f8_goesOn (by omega), if_neg (by omega)]
    exact (if_neg z).trans (obind e ((if_pos (by first | decide | rfl)).trans fin))
section RDM
variable {k : Int} {s0 s1 s2 s3 s4 : vST} {V W : Int → Int} {vL0 vL1 vL2 : Nat → Int32} {vL3 : Int32} {vR0 vR1 vR2 : Nat → Int32} {vR3 : Int32} {vM0 vM1 : Nat → Int32} {vM2 : Int32} {t0 : Nat → Int32} {t1 d3 : Int32} {d4 : Nat → Int32}
end RDM

