-- an item of a map, from a place where there is no fault
def iR (n0 n1 gm a d : Int) (A B : Int → Int) : Prop := (0 ≤ gm ∧ gm ≤ 120) ∧ (0 ≤ a ∧ 0 ≤ d) ∧ (∀ i, 0 ≤ i → i < gm → 0 ≤ A i ∧ 0 ≤ B i ∧ 1 ≤ A i + B i) ∧ Sm A gm = n0 - a ∧ Sm B gm = n1 - d
theorem iR.g {n0 n1 gm a d : Int} {A B : Int → Int} (h : iR n0 n1 gm a d A B) : gm ≤ n0 - a + (n1 - d) ∧ 0 ≤ n0 - a ∧ 0 ≤ n1 - d := by
  obtain ⟨h1, h2, h3, h4, h5⟩ := h
  have s1 := Sm_add (F := A) (G := B) h1.1
  have s2 := Sm_lo (F := fun i => A i + B i) (c := 1) h1.1 (fun i p q => (h3 i p q).2.2)
  have s3 := Sm_nn (F := A) h1.1 (fun i p q => (h3 i p q).1)
  have s4 := Sm_nn (F := B) h1.1 (fun i p q => (h3 i p q).2.1)
  omega
theorem iR.many {n0 n1 gm a d v l r : Int} {A B G H : Int → Int} (h : iR n0 n1 gm a d A B) (hn : n0 ≤ 60 ∧ n1 ≤ 60) (hv : 0 ≤ v) (hl : l = 0 ∨ l = 1) (hr : r = 0 ∨ r = 1) (hlr : 1 ≤ l + r) (ha : v * l ≤ a) (hd : v * r ≤ d) (hG : ∀ i, 0 ≤ i → i < gm + v → G i = exf A gm l i) (hH : ∀ i, 0 ≤ i → i < gm + v → H i = exf B gm r i) : iR n0 n1 (gm + v) (a - v * l) (d - v * r) G H := by
  have hg := h.g
  obtain ⟨h1, h2, h3, h4, h5⟩ := h
  have m1 : l * v = v * l := Int.mul_comm _ _
  have m2 : r * v = v * r := Int.mul_comm _ _
  have x1 : Sm G (gm + v) = Sm A gm + l * v := (Sm_congr (by omega) hG).trans (Sm_exf h1.1 hv)
  have x2 : Sm H (gm + v) = Sm B gm + r * v := (Sm_congr (by omega) hH).trans (Sm_exf h1.1 hv)
  have x3 : v ≤ v * l + v * r := by rcases hl with rfl | rfl <;> rcases hr with rfl | rfl <;> omega
  refine ⟨by omega, by omega, fun i p q => ?_, by omega, by omega⟩
  rw [hG i p q, hH i p q]
  by_cases z : i < gm
  · rw [exf_lo z, exf_lo z]
    exact h3 i p z
  · rw [exf_hi (by omega), exf_hi (by omega)]
    omega
theorem iR.one {n0 n1 gm a d x y : Int} {A B : Int → Int} (h : iR n0 n1 gm a d A B) (hn : n0 ≤ 60 ∧ n1 ≤ 60) (hx : 0 ≤ x ∧ x ≤ a) (hy : 0 ≤ y ∧ y ≤ d) (hxy : 1 ≤ x + y) : iR n0 n1 (gm + 1) (a - x) (d - y) (up A gm x) (up B gm y) := by
  have hg := h.g
  obtain ⟨h1, h2, h3, h4, h5⟩ := h
  have x1 : Sm (up A gm x) (gm + 1) = Sm A gm + x := by
    rw [Sm_s h1.1, up_at rfl, Sm_congr h1.1 (fun i p q => up_ne (by omega))]
  have x2 : Sm (up B gm y) (gm + 1) = Sm B gm + y := by
    rw [Sm_s h1.1, up_at rfl, Sm_congr h1.1 (fun i p q => up_ne (by omega))]
  refine ⟨by omega, by omega, fun i p q => ?_, by omega, by omega⟩
  by_cases z : i = gm
  · rw [up_at z, up_at z]
    omega
  · rw [up_ne z, up_ne z]
    exact h3 i p (by omega)
def itm (n0 n1 n p : Int) (C : Option (Int32 × Int32 × (Nat → Int32) × (Nat → Int32) × Int32 × Int32 × Int32 × Int32 × Int32)) (R : Option (Int32 × Int32 × Int32 × Int32 × Int32 × Int32 × (Nat → Int32) × (Nat → Int32))) : Prop :=
  (∃ (p2 gm a d : Int) (A B P Q : Int → Int) (nu ns y7 : Int32), (p < p2 ∧ p2 ≤ n) ∧ iR n0 n1 gm a d A B ∧ (∀ i, 0 ≤ i → i < gm → P i = A i ∧ Q i = B i) ∧ C = some (I a, I d, cz A, cz B, I gm, I p2, I (-1), nu, ns) ∧ R = some (I p2, I 1, y7, I a, I d, I gm, cz P, cz Q)) ∨
  (∃ (F p2 a d : Int) (A B : Nat → Int32) (gm nu ns y7 z8 z9 z10 : Int32) (P Q : Nat → Int32), (0 ≤ F ∧ F ≤ 80) ∧ (0 ≤ p2 ∧ p2 ≤ n) ∧ (0 ≤ a ∧ a ≤ 60) ∧ (0 ≤ d ∧ d ≤ 60) ∧ C = some (I a, I d, A, B, gm, I p2, I F, nu, ns) ∧ R = some (I F, I 0, y7, z8, z9, z10, P, Q))
theorem r10_j80N {S2 P Q : Int → Int} {n p p2 a d v c : Int} {g : Int32} (hb : (0 ≤ a ∧ a ≤ 1000) ∧ (0 ≤ d ∧ d ≤ 1000) ∧ 0 ≤ v ∧ v ≤ 1000) (hc : 0 ≤ c ∧ c ≤ 100) (h : ¬ ((c = 62 ∨ v ≤ a) ∧ ((¬ c = 62 ∧ ¬ c = 61) ∨ v ≤ d))) : pX10_readItem_j80 (I n) (cz S2) (I p2) (I 1) (I p) (I a) (I d) g (cz P) (cz Q) (I v) (1 : Int32) (I c) = some (I p, I 0, I p, I a, I d, g, cz P, cz Q) := by
  have e2 : I p2 + (1 : Int32) = I (p2 + 1) := by simp only [if_true, if_false, I_add, I_sub, I_mul, I_neg, I_ofNat, Option.bind_some, kIn, I_l0, I_l1, I_l2, I_l3, I_l4, I_l5, I_l6, I_l8, I_l9, I_l10, I_l11, I_l32, I_l40, I_l43, I_l44, I_l45, I_l48, I_l49, I_l57, I_l58, I_l60, I_l61, I_l62, I_l79, I_l80, I_l100, I_l120, I_l180, I_l200, I_l240, I_l300, I_l360, I_l361, I_l362, I_l363, I_l364, I_l365, I_l485, I_l605, I_l1999, I_l2000]
  have c1 : I c = (62 : Int32) ↔ c = 62 := by rw [I_l62, I_eq (by omega)]
  have c2 : I c = (61 : Int32) ↔ c = 61 := by rw [I_l61, I_eq (by omega)]
  have fin : pX10_readItem_j140 (I n) (cz S2) (I p2 + (1 : Int32)) (I 1) (I p) (I a) (I d) g (cz P) (cz Q) (I v) (I c) = some (I p, I 0, I p, I a, I d, g, cz P, cz Q) := by rw [e2]; exact r10_j140B
  have f28 : ¬ v ≤ d → pX10_readItem_j128 (I n) (cz S2) (I p2 + (1 : Int32)) (I 1) (I p) (I a) (I d) g (cz P) (cz Q) (I v) (I c) = some (I p, I 0, I p, I a, I d, g, cz P, cz Q) := fun t => (if_pos (by rw [I_lt (by omega)]; omega)).trans fin
  refine (if_neg (by first | decide | (dsimp only; decide))).trans ?_
  by_cases w1 : c = 62
  · exact (if_pos (c1.mpr w1)).trans ((if_pos (c1.mpr w1)).trans (f28 (by omega)))
  · refine (if_neg (fun t => w1 (c1.mp t))).trans ?_
    by_cases w2 : v ≤ a
    · refine (if_neg (by rw [I_lt (by omega)]; omega)).trans ((if_neg (fun t => w1 (c1.mp t))).trans ?_)
      by_cases w3 : c = 61
      · exact (if_pos (c2.mpr w3)).trans (f28 (by omega))
      · omega
    · exact (if_pos (by rw [I_lt (by omega)]; omega)).trans fin
theorem r10_j80Y {S2 P Q : Int → Int} {n p p2 a d v c : Int} {g : Int32} (hb : (0 ≤ a ∧ a ≤ 1000) ∧ (0 ≤ d ∧ d ≤ 1000) ∧ 0 ≤ v ∧ v ≤ 1000) (hc : 0 ≤ c ∧ c ≤ 100) (h : (c = 62 ∨ v ≤ a) ∧ ((¬ c = 62 ∧ ¬ c = 61) ∨ v ≤ d)) : pX10_readItem_j80 (I n) (cz S2) (I p2) (I 1) (I p) (I a) (I d) g (cz P) (cz Q) (I v) (1 : Int32) (I c) = (if c = 43 then ((pX10_number (I n) (cz S2) (I (p2 + 1)) (I 1)).bind fun q8 => if I d < q8.1 then pX10_readItem_j178 (I n) (cz S2) q8.2.1 q8.2.2.1 q8.2.2.2 (I a) (I d) g (cz P) (cz Q) (I v) q8.1 (0 : Int32) else pX10_readItem_j178 (I n) (cz S2) q8.2.1 q8.2.2.1 q8.2.2.2 (I a) (I d) g (cz P) (cz Q) (I v) q8.1 (1 : Int32)) else pX10_readItem_L199 (I n) (cz S2) 4000 (I (p2 + 1)) (I 1) (I p) (I a) (I d) g (cz P) (cz Q) (I v) (I c) (0 : Int32)) := by
  have e2 : I p2 + (1 : Int32) = I (p2 + 1) := by simp only [if_true, if_false, I_add, I_sub, I_mul, I_neg, I_ofNat, Option.bind_some, kIn, I_l0, I_l1, I_l2, I_l3, I_l4, I_l5, I_l6, I_l8, I_l9, I_l10, I_l11, I_l32, I_l40, I_l43, I_l44, I_l45, I_l48, I_l49, I_l57, I_l58, I_l60, I_l61, I_l62, I_l79, I_l80, I_l100, I_l120, I_l180, I_l200, I_l240, I_l300, I_l360, I_l361, I_l362, I_l363, I_l364, I_l365, I_l485, I_l605, I_l1999, I_l2000]
  have c1 : I c = (62 : Int32) ↔ c = 62 := by rw [I_l62, I_eq (by omega)]
  have c2 : I c = (61 : Int32) ↔ c = 61 := by rw [I_l61, I_eq (by omega)]
  have c3 : I c = (43 : Int32) ↔ c = 43 := by rw [I_l43, I_eq (by omega)]
  have e1 : pX10_needs (I (p2 + 1)) (I 1) (I p) (1 : Int32) = some (I (p2 + 1), I 1) := f10_needs (x := 1) (by omega)
  have fin : pX10_readItem_j136 (I n) (cz S2) (I (p2 + 1)) (I 1) (I p) (I a) (I d) g (cz P) (cz Q) (I v) (I c) = (if c = 43 then ((pX10_number (I n) (cz S2) (I (p2 + 1)) (I 1)).bind fun q8 => if I d < q8.1 then pX10_readItem_j178 (I n) (cz S2) q8.2.1 q8.2.2.1 q8.2.2.2 (I a) (I d) g (cz P) (cz Q) (I v) q8.1 (0 : Int32) else pX10_readItem_j178 (I n) (cz S2) q8.2.1 q8.2.2.1 q8.2.2.2 (I a) (I d) g (cz P) (cz Q) (I v) q8.1 (1 : Int32)) else pX10_readItem_L199 (I n) (cz S2) 4000 (I (p2 + 1)) (I 1) (I p) (I a) (I d) g (cz P) (cz Q) (I v) (I c) (0 : Int32)) := by
    unfold pX10_readItem_j136 pX10_readItem_j141
    refine obind e1 ?_
    refine (if_neg (by dsimp only; decide)).trans ?_
    by_cases w : c = 43
    · exact (if_pos (c3.mpr w)).trans (if_pos w).symm
    · exact (if_neg (fun t => w (c3.mp t))).trans (if_neg w).symm
  rw [← e2] at fin
  have f28 : v ≤ d → pX10_readItem_j128 (I n) (cz S2) (I p2 + (1 : Int32)) (I 1) (I p) (I a) (I d) g (cz P) (cz Q) (I v) (I c) = _ := fun t => (if_neg (by rw [I_lt (by omega)]; omega)).trans fin
  rw [← e2]
  refine (if_neg (by first | decide | (dsimp only; decide))).trans ?_
  by_cases w1 : c = 62
  · exact (if_pos (c1.mpr w1)).trans ((if_pos (c1.mpr w1)).trans (f28 (by omega)))
  · refine (if_neg (fun t => w1 (c1.mp t))).trans ((if_neg (by rw [I_lt (by omega)]; omega)).trans ((if_neg (fun t => w1 (c1.mp t))).trans ?_))
    by_cases w3 : c = 61
    · exact (if_pos (c2.mpr w3)).trans (f28 (by omega))
    · exact (if_neg (fun t => w3 (c2.mp t))).trans fin
theorem itm_good {S S2 A B P Q : Int → Int} {n n0 n1 p gm a d : Int} (hT : tx S S2 n) (hp : 0 ≤ p ∧ p ≤ n) (hi : iR n0 n1 gm a d A B) (hPQ : ∀ i, 0 ≤ i → i < gm → P i = A i ∧ Q i = B i) (hn01 : n0 ≤ 60 ∧ n1 ≤ 60) : itm n0 n1 n p (pX4_readItem (I a) (I d) (cz A) (cz B) (I gm) (cz S) (I n) (I p) (I (-1))) (pX10_readItem (I n) (cz S2) (I p) (I 1) (I a) (I d) (I gm) (cz P) (cz Q)) := by
  have hn := hT.1
  have hg := hi.g
  have hg1 := hi.1
  have had := hi.2.1
  obtain ⟨p2, f2, v, hv⟩ := nuF_ex S n p
  have hb := nuF_bd hp hv
  have e1 := f8_readNumber ⟨hn, hp⟩ hT.s hv
  have g1 := f10_number hT hp hv
  by_cases z : f2 = -1
  · rw [z] at e1 g1
    rw [if_pos rfl] at g1
    by_cases hs : p2 < n ∧ sgn4 (S p2)
    · have e2 := f8_readSignY hT (p := p2) (by omega) rfl hs.2
      have g2 := r10_sgn hT (p2 := p2) (v := v) (p := p) (a := I a) (d := I d) (g := I gm) (G := cz P) (H := cz Q) (by omega) rfl hs.2 g1
      generalize hc : S p2 = c at e2 g2 hs
      have hc4 := hs.2
      unfold sgn4 at hc4
      by_cases w : (c = 62 ∨ v ≤ a) ∧ ((¬ c = 62 ∧ ¬ c = 61) ∨ v ≤ d)
      · have g3 := g2.trans (r10_j80Y (by omega) (by omega) w)
        by_cases w43 : c = 43
        · rw [if_pos w43] at g3
          rw [w43] at e2
          have e3 := f4_useY (a := a) (d := d) (f := -1) (ns := p) (x := v) (y := 0) (by omega)
          rw [Int.sub_zero] at e3
          obtain ⟨p3, f3, x, hx⟩ := nuF_ex S n (p2 + 1)
          have hb3 := nuF_bd (by omega) hx
          have e4 := f8_readNumber ⟨hn, by omega⟩ hT.s hx
          have g4 := f10_number hT (by omega) hx
          by_cases z3 : f3 = -1
          · rw [z3] at e4 g4
            rw [if_pos rfl] at g4
            by_cases w5 : x ≤ d
            · have e5 := f4_useY (a := a - v) (d := d) (f := -1) (ns := p2 + 1) (x := 0) (y := x) (by omega)
              rw [Int.sub_zero] at e5
              have e6 := f1_append (L := A) (R := B) (g := gm) (x := v) (y := x) (by omega)
              have g5 : pX10_needs (I p3) (I 1) (I (p2 + 1)) (1 : Int32) = some (I p3, I 1) := f10_needs (x := 1) (by omega)
              have g6 := f10_put (A := P) (B := Q) (a := a) (d := d) (g := gm) (x := v) (y := x) (by omega)
              have g7 : ¬ I d < I x := by rw [I_lt (by omega)]; omega
              refine Or.inl ⟨p3, gm + 1, a - v, d - x, up A gm v, up B gm x, up P gm v, up Q gm x, _, _, _, by omega, hi.one hn01 (by omega) (by omega) (by omega), fun i q1 q2 => ?_, obind e1 (obind e2 ((if_pos (by first | decide | rfl)).trans (obind e3 (obind e4 (obind e5 (obind e6 rfl)))))), g3.trans (obind g4 ((if_neg g7).trans (obind g5 ((if_neg (by first | decide | (dsimp only; decide))).trans (obind g6 rfl)))))⟩
              by_cases w6 : i = gm
              · rw [up_at w6, up_at w6, up_at w6, up_at w6]
                exact ⟨rfl, rfl⟩
              · rw [up_ne w6, up_ne w6, up_ne w6, up_ne w6]
                exact hPQ i q1 (by omega)
            · have e5 := f4_useN (a := a - v) (d := d) (f := -1) (ns := p2 + 1) (x := 0) (y := x) (by omega) (by omega) (by omega)
              rw [flt_1] at e5
              obtain ⟨L3, R3, gm3, hgm3, e6⟩ := f1_appendN (L := A) (R := B) (g := gm) (x := v) (y := x) hg1
              have g5 : pX10_needs (I p3) (I 1) (I (p2 + 1)) (0 : Int32) = some (I (p2 + 1), I 0) := f10_needs (x := 0) (by omega)
              have g7 : I d < I x := by rw [I_lt (by omega)]; omega
              exact Or.inr ⟨p2 + 1, p3, a - v, d, _, _, _, _, _, _, _, _, _, _, _, by omega, by omega, by omega, by omega, obind e1 (obind e2 ((if_pos (by first | decide | rfl)).trans (obind e3 (obind e4 (obind e5 (obind e6 rfl)))))), g3.trans (obind g4 ((if_pos g7).trans (obind g5 (if_pos (by first | decide | rfl)))))⟩
          · have hf3 : f3 = p3 := by omega
            rw [hf3] at e4
            rw [if_neg z3] at g4
            obtain ⟨L3, R3, gm3, hgm3, e6⟩ := f1_appendN (L := A) (R := B) (g := gm) (x := v) (y := x) hg1
            have g5 : ∀ t, pX10_readItem_j178 (I n) (cz S2) (I p3) (I 0) (I (p2 + 1)) (I a) (I d) (I gm) (cz P) (cz Q) (I v) (I x) t = some (I p3, I 0, I (p2 + 1), I a, I d, I gm, cz P, cz Q) := fun t => obind f10_needsB (if_pos (by first | decide | rfl))
            have g8 : (if I d < I x then pX10_readItem_j178 (I n) (cz S2) (I p3) (I 0) (I (p2 + 1)) (I a) (I d) (I gm) (cz P) (cz Q) (I v) (I x) (0 : Int32) else pX10_readItem_j178 (I n) (cz S2) (I p3) (I 0) (I (p2 + 1)) (I a) (I d) (I gm) (cz P) (cz Q) (I v) (I x) (1 : Int32)) = some (I p3, I 0, I (p2 + 1), I a, I d, I gm, cz P, cz Q) := by
              by_cases g7 : I d < I x
              · exact (if_pos g7).trans (g5 _)
              · exact (if_neg g7).trans (g5 _)
            by_cases w5 : x ≤ d
            · have e5 := f4_useY (a := a - v) (d := d) (f := p3) (ns := p2 + 1) (x := 0) (y := x) (by omega)
              rw [Int.sub_zero] at e5
              exact Or.inr ⟨p3, p3, a - v, d - x, _, _, _, _, _, _, _, _, _, _, _, by omega, by omega, by omega, by omega, obind e1 (obind e2 ((if_pos (by first | decide | rfl)).trans (obind e3 (obind e4 (obind e5 (obind e6 rfl)))))), g3.trans (obind g4 g8)⟩
            · have e5 := f4_useN (a := a - v) (d := d) (f := p3) (ns := p2 + 1) (x := 0) (y := x) (by omega) (by omega) (by omega)
              rw [flt_2 (by omega)] at e5
              exact Or.inr ⟨p3, p3, a - v, d, _, _, _, _, _, _, _, _, _, _, _, by omega, by omega, by omega, by omega, obind e1 (obind e2 ((if_pos (by first | decide | rfl)).trans (obind e3 (obind e4 (obind e5 (obind e6 rfl)))))), g3.trans (obind g4 g8)⟩
        · rw [if_neg w43] at g3
          have kind : ∀ (l r : Int), l = (if c = 62 then 0 else 1) → r = (if c = 60 then 0 else 1) → (pX4_readItem (I a) (I d) (cz A) (cz B) (I gm) (cz S) (I n) (I p) (I (-1)) = ((pX4_addGroups (I a) (I d) (cz A) (cz B) (I gm) (I (-1)) (I p) (I v) (I l) (I r)).bind fun q14 => some (q14.1, q14.2.1, q14.2.2.1, q14.2.2.2.1, q14.2.2.2.2.1, I (p2 + 1), q14.2.2.2.2.2, I v, I p))) → itm n0 n1 n p (pX4_readItem (I a) (I d) (cz A) (cz B) (I gm) (cz S) (I n) (I p) (I (-1))) (pX10_readItem (I n) (cz S2) (I p) (I 1) (I a) (I d) (I gm) (cz P) (cz Q)) := by
            intro l r hl hr hC
            have l01 : l = 0 ∨ l = 1 := by split at hl <;> omega
            have r01 : r = 0 ∨ r = 1 := by split at hr <;> omega
            have lr : 1 ≤ l + r := by split at hl <;> split at hr <;> omega
            have ml : v * l ≤ a := by
              split at hl
              · rw [hl]; omega
              · rw [hl]; omega
            have mr : v * r ≤ d := by
              split at hr
              · rw [hr]; omega
              · rw [hr]; omega
            have xv : v ≤ v * l + v * r := by rcases l01 with h | h <;> rcases r01 with h2 | h2 <;> rw [h, h2] <;> omega
            obtain ⟨G, H, q1, q2, q3⟩ := f4_addGroupsY (A := A) (B := B) (gm := gm) (v := v) (l := l) (r := r) (a := a) (d := d) (ns := p) (by omega) (by omega) l01 r01 (by omega) (by omega)
            obtain ⟨G2, H2, q4, q5, q6⟩ := r10_addY (A := P) (B := Q) (gm := gm) (v := v) (l := l) (r := r) (a := a) (d := d) (ch := c) (n := I n) (p := I (p2 + 1)) (y7 := I p) (T := cz S2) (by omega) (by omega) hl hr (by omega) 4000 P Q 0 a d (by omega) (by omega) (by omega) (by omega) (by omega) (fun i s1 s2 => (exf_lo (by omega)).symm) (fun i s1 s2 => (exf_lo (by omega)).symm)
            rw [Int.add_zero] at q6
            refine Or.inl ⟨p2 + 1, gm + v, a - v * l, d - v * r, G, H, G2, H2, _, _, _, by omega, hi.many hn01 (by omega) l01 r01 lr ml mr q1 q2, fun i s1 s2 => ?_, hC.trans (obind q3 rfl), g3.trans q6⟩
            rw [q4 i s1 s2, q5 i s1 s2, q1 i s1 s2, q2 i s1 s2]
            by_cases w6 : i < gm
            · rw [exf_lo w6, exf_lo w6, exf_lo w6, exf_lo w6]
              exact hPQ i s1 w6
            · rw [exf_hi (by omega), exf_hi (by omega), exf_hi (by omega), exf_hi (by omega)]
              exact ⟨rfl, rfl⟩
          rcases hc4 with h | h | h | h
          · rw [h] at e2
            exact kind 1 1 (by rw [if_neg (by omega)]) (by rw [if_neg (by omega)]) (obind e1 (obind e2 ((if_neg (by first | decide | (dsimp only; decide))).trans ((if_neg (by first | decide | (dsimp only; decide))).trans (if_pos (by first | decide | rfl))))))
          · rw [h] at e2
            exact kind 1 0 (by rw [if_neg (by omega)]) (by rw [if_pos h]) (obind e1 (obind e2 ((if_neg (by first | decide | (dsimp only; decide))).trans (if_pos (by first | decide | rfl)))))
          · rw [h] at e2
            exact kind 0 1 (by rw [if_pos h]) (by rw [if_neg (by omega)]) (obind e1 (obind e2 ((if_neg (by first | decide | (dsimp only; decide))).trans ((if_neg (by first | decide | (dsimp only; decide))).trans ((if_neg (by first | decide | (dsimp only; decide))).trans (if_pos (by first | decide | rfl)))))))
          · exact absurd h w43
      · have g3 := g2.trans (r10_j80N (by omega) (by omega) w)
        have kind : ∀ (l r : Int), (l = 0 ∨ l = 1) → (r = 0 ∨ r = 1) → ¬ (v * l ≤ a ∧ v * r ≤ d) → (pX4_readItem (I a) (I d) (cz A) (cz B) (I gm) (cz S) (I n) (I p) (I (-1)) = ((pX4_addGroups (I a) (I d) (cz A) (cz B) (I gm) (I (-1)) (I p) (I v) (I l) (I r)).bind fun q14 => some (q14.1, q14.2.1, q14.2.2.1, q14.2.2.2.1, q14.2.2.2.2.1, I (p2 + 1), q14.2.2.2.2.2, I v, I p))) → itm n0 n1 n p (pX4_readItem (I a) (I d) (cz A) (cz B) (I gm) (cz S) (I n) (I p) (I (-1))) (pX10_readItem (I n) (cz S2) (I p) (I 1) (I a) (I d) (I gm) (cz P) (cz Q)) := by
          intro l r hl hr hno hC
          have e3 := f4_addGroupsN (A := cz A) (B := cz B) (gm := gm) (v := v) (l := l) (r := r) (a := a) (d := d) (ns := p) (by omega) hl hr (by omega) (by omega) (by omega) hno
          exact Or.inr ⟨p, p2 + 1, a, d, _, _, _, _, _, _, _, _, _, _, _, by omega, by omega, by omega, by omega, hC.trans (obind e3 rfl), g3⟩
        rcases hc4 with h | h | h | h
        · rw [h] at e2
          exact kind 1 1 (by omega) (by omega) (by omega) (obind e1 (obind e2 ((if_neg (by first | decide | (dsimp only; decide))).trans ((if_neg (by first | decide | (dsimp only; decide))).trans (if_pos (by first | decide | rfl))))))
        · rw [h] at e2
          exact kind 1 0 (by omega) (by omega) (by omega) (obind e1 (obind e2 ((if_neg (by first | decide | (dsimp only; decide))).trans (if_pos (by first | decide | rfl)))))
        · rw [h] at e2
          exact kind 0 1 (by omega) (by omega) (by omega) (obind e1 (obind e2 ((if_neg (by first | decide | (dsimp only; decide))).trans ((if_neg (by first | decide | (dsimp only; decide))).trans ((if_neg (by first | decide | (dsimp only; decide))).trans (if_pos (by first | decide | rfl)))))))
        · rw [h] at e2
          have e3 := f4_useN (a := a) (d := d) (f := -1) (ns := p) (x := v) (y := 0) (by omega) (by omega) (by omega)
          rw [flt_1] at e3
          obtain ⟨p3, x, hp3, hx, e4⟩ := f8_readNumberB (S := S) (n := n) (p := p2 + 1) (f := p) ⟨hn, by omega, by omega⟩ hT.s
          obtain ⟨L3, R3, gm3, hgm3, e6⟩ := f1_appendN (L := A) (R := B) (g := gm) (x := v) (y := x) hg1
          by_cases w5 : x ≤ d
          · have e5 := f4_useY (a := a) (d := d) (f := p) (ns := p2 + 1) (x := 0) (y := x) (by omega)
            rw [Int.sub_zero] at e5
            exact Or.inr ⟨p, p3, a, d - x, _, _, _, _, _, _, _, _, _, _, _, by omega, by omega, by omega, by omega, obind e1 (obind e2 ((if_pos (by first | decide | rfl)).trans (obind e3 (obind e4 (obind e5 (obind e6 rfl)))))), g3⟩
          · have e5 := f4_useN (a := a) (d := d) (f := p) (ns := p2 + 1) (x := 0) (y := x) (by omega) (by omega) (by omega)
            rw [flt_2 (by omega)] at e5
            exact Or.inr ⟨p, p3, a, d, _, _, _, _, _, _, _, _, _, _, _, by omega, by omega, by omega, by omega, obind e1 (obind e2 ((if_pos (by first | decide | rfl)).trans (obind e3 (obind e4 (obind e5 (obind e6 rfl)))))), g3⟩
    · have e2 := f8_readSignN hT (p := p2) (f := -1) (by omega) (by omega) (fun t => hs t.2)
      rw [flt_1] at e2
      exact Or.inr ⟨p2, p2, a, d, _, _, _, _, _, _, _, _, _, _, _, by omega, by omega, by omega, by omega, obind e1 (obind e2 ((if_neg (by first | decide | (dsimp only; decide))).trans ((if_neg (by first | decide | (dsimp only; decide))).trans ((if_neg (by first | decide | (dsimp only; decide))).trans (if_neg (by first | decide | (dsimp only; decide))))))), r10_noSgn hT (by omega) hs g1⟩
  · have hf : f2 = p2 := by omega
    rw [hf] at e1
    rw [if_neg z] at g1
    have e2 := f8_readSignN hT (p := p2) (f := p2) (by omega) (by omega) (fun t => by omega)
    rw [flt_2 (by omega)] at e2
    exact Or.inr ⟨p2, p2, a, d, _, _, _, _, _, _, _, _, _, _, _, by omega, by omega, by omega, by omega, obind e1 (obind e2 ((if_neg (by first | decide | (dsimp only; decide))).trans ((if_neg (by first | decide | (dsimp only; decide))).trans ((if_neg (by first | decide | (dsimp only; decide))).trans (if_neg (by first | decide | (dsimp only; decide))))))), r10_numBad g1⟩
-- the class's item behind a fault changes no more than the place
theorem f4_itemB {S S2 : Int → Int} {n p f : Int} {a d gm : Int32} {A B : Nat → Int32} (hT : tx S S2 n) (hp : 0 ≤ p ∧ p ≤ n) (hf : 0 ≤ f ∧ f ≤ 80) : ∃ (p2 : Int) (nu ns : Int32), (0 ≤ p2 ∧ p2 ≤ n) ∧ pX4_readItem a d A B gm (cz S) (I n) (I p) (I f) = some (a, d, A, B, gm, I p2, I f, nu, ns) := by
  have hn := hT.1
  obtain ⟨p2, v, hp2, hv, e1⟩ := f8_readNumberB (S := S) (p := p) (f := f) ⟨hn, hp, hf⟩ hT.s
  have e2 := f8_readSignN hT (p := p2) (f := f) (by omega) (by omega) (fun t => by omega)
  rw [flt_2 (by omega)] at e2
  exact ⟨p2, _, _, hp2, obind e1 (obind e2 ((if_neg (by first | decide | (dsimp only; decide))).trans ((if_neg (by first | decide | (dsimp only; decide))).trans ((if_neg (by first | decide | (dsimp only; decide))).trans (if_neg (by first | decide | (dsimp only; decide)))))))⟩
