-- one item of a map that is read: both sides alike, or both fail at the same place
theorem f8_hasFault0 : pX8_hasFault (I (-1)) = some (I 0) := rfl
theorem f8_hasFault1 {f : Int} (h : 0 ≤ f ∧ f ≤ 1000) : pX8_hasFault (I f) = some (I 1) := by
  unfold pX8_hasFault
  simp (disch := omega) only [if_true, if_false, I_add, I_sub, I_mul, I_neg, I_ofNat, Option.bind_some, kIn, I_l0, I_l1, I_l2, I_l3, I_l4, I_l5, I_l6, I_l8, I_l9, I_l10, I_l11, I_l32, I_l40, I_l43, I_l44, I_l45, I_l48, I_l49, I_l57, I_l58, I_l60, I_l61, I_l62, I_l79, I_l80, I_l100, I_l120, I_l180, I_l200, I_l240, I_l300, I_l360, I_l361, I_l362, I_l363, I_l364, I_l365, I_l485, I_l605, I_l1999, I_l2000, I_eq, if_neg]
def sgn4 (c : Int) : Prop := c = 61 ∨ c = 60 ∨ c = 62 ∨ c = 43
theorem f8_sign36 {S S2 : Int → Int} {n p f : Int} (h : tx S S2 n) (hp : 0 ≤ p ∧ p < n) : pX8_readSign_j36 (cz S) (I n) (I p) (I f) = some (I (S p), I (p + 1), I f) := by
  have hn := h.1
  have hs := h.s p hp.1 hp.2
  have e1 : (I p + (1 : Int32)) - (1 : Int32) = I p := by
    simp only [if_true, if_false, I_add, I_sub, I_mul, I_neg, I_ofNat, Option.bind_some, kIn, I_l0, I_l1, I_l2, I_l3, I_l4, I_l5, I_l6, I_l8, I_l9, I_l10, I_l11, I_l32, I_l40, I_l43, I_l44, I_l45, I_l48, I_l49, I_l57, I_l58, I_l60, I_l61, I_l62, I_l79, I_l80, I_l100, I_l120, I_l180, I_l200, I_l240, I_l300, I_l360, I_l361, I_l362, I_l363, I_l364, I_l365, I_l485, I_l605, I_l1999, I_l2000]
    rw [show p + 1 - 1 = p by omega]
  have e2 : pX8_signAt (cz S) (I n) ((I p + (1 : Int32)) - (1 : Int32)) = some (I (S p)) := by rw [e1, f8_signAt (by omega) h.s, at0_in hp]
  have e3 : I p + (1 : Int32) = I (p + 1) := by simp only [if_true, if_false, I_add, I_sub, I_mul, I_neg, I_ofNat, Option.bind_some, kIn, I_l0, I_l1, I_l2, I_l3, I_l4, I_l5, I_l6, I_l8, I_l9, I_l10, I_l11, I_l32, I_l40, I_l43, I_l44, I_l45, I_l48, I_l49, I_l57, I_l58, I_l60, I_l61, I_l62, I_l79, I_l80, I_l100, I_l120, I_l180, I_l200, I_l240, I_l300, I_l360, I_l361, I_l362, I_l363, I_l364, I_l365, I_l485, I_l605, I_l1999, I_l2000]
  unfold pX8_readSign_j36
  refine obind e2 ((if_pos (nar_char hs)).trans ?_)
  rw [e3]
theorem f8_standsC {S S2 : Int → Int} {n p c d : Int} (h : tx S S2 n) (hp : 0 ≤ p ∧ p < n) (hc : S p = c) (hd : 0 ≤ d ∧ d ≤ 65535) : pX8_stands (cz S) (I n) (I p) (I (-1)) (I d) = some (I (if c = d then 1 else 0)) := by
  have hn := h.1
  rw [f8_stands (by omega) h.s]
  by_cases z : c = d
  · rw [if_pos ⟨rfl, hp.2, by omega⟩, if_pos z]
  · rw [if_neg (fun t => z (by omega)), if_neg z]
theorem f8_readSignY {S S2 : Int → Int} {n p c : Int} (h : tx S S2 n) (hp : 0 ≤ p ∧ p < n) (hc : S p = c) (h4 : sgn4 c) : pX8_readSign (cz S) (I n) (I p) (I (-1)) = some (I c, I (p + 1), I (-1)) := by
  have e := f8_sign36 (f := -1) h hp
  rw [hc] at e
  have e1 : pX8_stands (cz S) (I n) (I p) (I (-1)) (61 : Int32) = _ := f8_standsC (d := 61) h hp hc (by omega)
  have e2 : pX8_stands (cz S) (I n) (I p) (I (-1)) (60 : Int32) = _ := f8_standsC (d := 60) h hp hc (by omega)
  have e3 : pX8_stands (cz S) (I n) (I p) (I (-1)) (62 : Int32) = _ := f8_standsC (d := 62) h hp hc (by omega)
  have e4 : pX8_stands (cz S) (I n) (I p) (I (-1)) (43 : Int32) = _ := f8_standsC (d := 43) h hp hc (by omega)
  clear hc
  unfold pX8_readSign
  rcases h4 with rfl | rfl | rfl | rfl
  · exact obind e1 ((if_neg (by first | decide | (dsimp only; decide))).trans e)
  · exact obind e1 ((if_pos (by first | decide | rfl)).trans (obind e2 ((if_neg (by first | decide | (dsimp only; decide))).trans e)))
  · exact obind e1 ((if_pos (by first | decide | rfl)).trans (obind e2 ((if_pos (by first | decide | rfl)).trans (obind e3 ((if_neg (by first | decide | (dsimp only; decide))).trans e)))))
  · exact obind e1 ((if_pos (by first | decide | rfl)).trans (obind e2 ((if_pos (by first | decide | rfl)).trans (obind e3 ((if_pos (by first | decide | rfl)).trans (obind e4 ((if_neg (by first | decide | (dsimp only; decide))).trans e)))))))
theorem f8_readSignN {S S2 : Int → Int} {n p f : Int} (h : tx S S2 n) (hp : 0 ≤ p ∧ p ≤ n) (hf : -1 ≤ f ∧ f ≤ 100) (h4 : ¬ (f = -1 ∧ p < n ∧ sgn4 (S p))) : pX8_readSign (cz S) (I n) (I p) (I f) = some (I 0, I p, I (flt f p)) := by
  have hn := h.1
  have st : ∀ d, (d = 61 ∨ d = 60 ∨ d = 62 ∨ d = 43) → pX8_stands (cz S) (I n) (I p) (I f) (I d) = some (I 0) := by
    intro d hd
    rw [f8_stands (by omega) h.s, if_neg (fun t => h4 ⟨t.1, t.2.1, by unfold sgn4; omega⟩)]
  have e1 : pX8_stands (cz S) (I n) (I p) (I f) (61 : Int32) = _ := st 61 (by omega)
  have e2 : pX8_stands (cz S) (I n) (I p) (I f) (60 : Int32) = _ := st 60 (by omega)
  have e3 : pX8_stands (cz S) (I n) (I p) (I f) (62 : Int32) = _ := st 62 (by omega)
  have e4 : pX8_stands (cz S) (I n) (I p) (I f) (43 : Int32) = _ := st 43 (by omega)
  have e5 := f8_failAt (f := f) (i := p) (by omega)
  unfold pX8_readSign
  exact obind e1 ((if_pos (by first | decide | rfl)).trans (obind e2 ((if_pos (by first | decide | rfl)).trans (obind e3 ((if_pos (by first | decide | rfl)).trans (obind e4 ((if_pos (by first | decide | rfl)).trans (obind e5 rfl))))))))
theorem f4_useY {a d f ns x y : Int} (h : (0 ≤ x ∧ x ≤ a ∧ a ≤ 1000) ∧ 0 ≤ y ∧ y ≤ d ∧ d ≤ 1000) : pX4_use (I a) (I d) (I f) (I ns) (I x) (I y) = some (I (a - x), I (d - y), I f) := by
  unfold pX4_use
  simp (disch := omega) only [if_true, if_false, I_add, I_sub, I_mul, I_neg, I_ofNat, Option.bind_some, kIn, I_l0, I_l1, I_l2, I_l3, I_l4, I_l5, I_l6, I_l8, I_l9, I_l10, I_l11, I_l32, I_l40, I_l43, I_l44, I_l45, I_l48, I_l49, I_l57, I_l58, I_l60, I_l61, I_l62, I_l79, I_l80, I_l100, I_l120, I_l180, I_l200, I_l240, I_l300, I_l360, I_l361, I_l362, I_l363, I_l364, I_l365, I_l485, I_l605, I_l1999, I_l2000, I_le, I_lt, if_pos, if_neg]
theorem f4_useN {a d f ns x y : Int} (h : (0 ≤ a ∧ a ≤ 1000) ∧ (0 ≤ d ∧ d ≤ 1000) ∧ (0 ≤ x ∧ x ≤ 1000) ∧ 0 ≤ y ∧ y ≤ 1000) (hf : -1 ≤ f ∧ f ≤ 1000) (hn : ¬ (x ≤ a ∧ y ≤ d)) : pX4_use (I a) (I d) (I f) (I ns) (I x) (I y) = some (I a, I d, I (flt f ns)) := by
  have e := f8_failAtNumber (f := f) (i := ns) (by omega)
  unfold pX4_use
  by_cases z : x ≤ a
  · simp (disch := omega) only [if_true, if_false, I_add, I_sub, I_mul, I_neg, I_ofNat, Option.bind_some, kIn, I_l0, I_l1, I_l2, I_l3, I_l4, I_l5, I_l6, I_l8, I_l9, I_l10, I_l11, I_l32, I_l40, I_l43, I_l44, I_l45, I_l48, I_l49, I_l57, I_l58, I_l60, I_l61, I_l62, I_l79, I_l80, I_l100, I_l120, I_l180, I_l200, I_l240, I_l300, I_l360, I_l361, I_l362, I_l363, I_l364, I_l365, I_l485, I_l605, I_l1999, I_l2000, I_le, I_lt, if_neg, e]
  · simp (disch := omega) only [if_true, if_false, I_add, I_sub, I_mul, I_neg, I_ofNat, Option.bind_some, kIn, I_l0, I_l1, I_l2, I_l3, I_l4, I_l5, I_l6, I_l8, I_l9, I_l10, I_l11, I_l32, I_l40, I_l43, I_l44, I_l45, I_l48, I_l49, I_l57, I_l58, I_l60, I_l61, I_l62, I_l79, I_l80, I_l100, I_l120, I_l180, I_l200, I_l240, I_l300, I_l360, I_l361, I_l362, I_l363, I_l364, I_l365, I_l485, I_l605, I_l1999, I_l2000, I_le, I_lt, if_pos, e]
-- the class's groups of one kind
theorem f4_addY {A B : Int → Int} {gm v l r a d : Int} {ns : Int32} (hg : 0 ≤ gm ∧ gm + v ≤ 120) (hv : 0 ≤ v) : ∀ (m : Nat) (G H : Int → Int) (k : Int), 0 ≤ k → k ≤ v → v - k < m → (∀ i, 0 ≤ i → i < gm + k → G i = exf A gm l i) → (∀ i, 0 ≤ i → i < gm + k → H i = exf B gm r i) → ∃ G2 H2 : Int → Int, (∀ i, 0 ≤ i → i < gm + v → G2 i = exf A gm l i) ∧ (∀ i, 0 ≤ i → i < gm + v → H2 i = exf B gm r i) ∧ pX4_addGroups_L15 ns m (I a) (I d) (cz G) (cz H) (I (gm + k)) (I (-1)) (I v) (I l) (I r) (I k) = some (I a, I d, cz G2, cz H2, I (gm + v), I (-1)) := by
  intro m
  induction m with
  | zero => intro G H k h0 h1 h2; omega
  | succ m ih =>
    intro G H k h0 h1 h2 hG hH
    by_cases z : k = v
    · subst z
      have z1 : I k ≤ I k := by rw [I_le (by omega)]; omega
      exact ⟨G, H, hG, hH, if_pos z1⟩
    · have z1 : ¬ I v ≤ I k := by rw [I_le (by omega)]; omega
      obtain ⟨G2, H2, q1, q2, q3⟩ := ih (up G (gm + k) l) (up H (gm + k) r) (k + 1) (by omega) (by omega) (by omega) (exf_up2 h0 hG) (exf_up2 h0 hH)
      refine ⟨G2, H2, q1, q2, ?_⟩
      have e1 := f1_append (L := G) (R := H) (g := gm + k) (x := l) (y := r) (by omega)
      have e2 : I k + (1 : Int32) = I (k + 1) := by simp only [if_true, if_false, I_add, I_sub, I_mul, I_neg, I_ofNat, Option.bind_some, kIn, I_l0, I_l1, I_l2, I_l3, I_l4, I_l5, I_l6, I_l8, I_l9, I_l10, I_l11, I_l32, I_l40, I_l43, I_l44, I_l45, I_l48, I_l49, I_l57, I_l58, I_l60, I_l61, I_l62, I_l79, I_l80, I_l100, I_l120, I_l180, I_l200, I_l240, I_l300, I_l360, I_l361, I_l362, I_l363, I_l364, I_l365, I_l485, I_l605, I_l1999, I_l2000]
      rw [show gm + (k + 1) = gm + k + 1 by omega, ← e2] at q3
      exact (if_neg z1).trans (obind f8_hasFault0 ((if_pos (by first | decide | rfl)).trans (obind e1 q3)))
theorem f4_addB {A B : Nat → Int32} {gm v f : Int} {ns l r a d : Int32} (hf : 0 ≤ f ∧ f ≤ 1000) : pX4_addGroups_L15 ns 4000 a d A B (I gm) (I f) (I v) l r (0 : Int32) = some (a, d, A, B, I gm, I f) := by
  show pX4_addGroups_bL15 ns (pX4_addGroups_L15 ns 3999) a d A B (I gm) (I f) (I v) l r (0 : Int32) = _
  by_cases z : I v ≤ (0 : Int32)
  · exact if_pos z
  · exact (if_neg z).trans (obind (f8_hasFault1 hf) (if_neg (by first | decide | (dsimp only; decide))))
theorem f4_addGroupsY {A B : Int → Int} {gm v l r a d ns : Int} (hg : 0 ≤ gm ∧ gm + v ≤ 120) (hv : 0 ≤ v ∧ v ≤ 100) (hl : l = 0 ∨ l = 1) (hr : r = 0 ∨ r = 1) (ha : v * l ≤ a ∧ a ≤ 1000) (hd : v * r ≤ d ∧ d ≤ 1000) : ∃ G2 H2 : Int → Int, (∀ i, 0 ≤ i → i < gm + v → G2 i = exf A gm l i) ∧ (∀ i, 0 ≤ i → i < gm + v → H2 i = exf B gm r i) ∧ pX4_addGroups (I a) (I d) (cz A) (cz B) (I gm) (I (-1)) (I ns) (I v) (I l) (I r) = some (I (a - v * l), I (d - v * r), cz G2, cz H2, I (gm + v), I (-1)) := by
  obtain ⟨G2, H2, q1, q2, q3⟩ := f4_addY (A := A) (B := B) (gm := gm) (v := v) (l := l) (r := r) (a := a - v * l) (d := d - v * r) (ns := I ns) hg hv.1 4000 A B 0 (by omega) hv.1 (by omega) (fun i p q => (exf_lo (by omega)).symm) (fun i p q => (exf_lo (by omega)).symm)
  have b1 : 0 ≤ v * l := by rcases hl with rfl | rfl <;> omega
  have b2 : 0 ≤ v * r := by rcases hr with rfl | rfl <;> omega
  have e1 := f4_useY (a := a) (d := d) (f := -1) (ns := ns) (x := v * l) (y := v * r) (by omega)
  rw [← I_mul, ← I_mul] at e1
  rw [Int.add_zero] at q3
  exact ⟨G2, H2, q1, q2, obind e1 q3⟩
theorem f4_addGroupsN {A B : Nat → Int32} {gm v l r a d ns : Int} (hv : 0 ≤ v ∧ v ≤ 100) (hl : l = 0 ∨ l = 1) (hr : r = 0 ∨ r = 1) (ha : 0 ≤ a ∧ a ≤ 1000) (hd : 0 ≤ d ∧ d ≤ 1000) (hn : 0 ≤ ns ∧ ns ≤ 1000) (h : ¬ (v * l ≤ a ∧ v * r ≤ d)) : pX4_addGroups (I a) (I d) A B (I gm) (I (-1)) (I ns) (I v) (I l) (I r) = some (I a, I d, A, B, I gm, I ns) := by
  have b1 : 0 ≤ v * l ∧ v * l ≤ 100 := by rcases hl with rfl | rfl <;> omega
  have b2 : 0 ≤ v * r ∧ v * r ≤ 100 := by rcases hr with rfl | rfl <;> omega
  have e1 := f4_useN (a := a) (d := d) (f := -1) (ns := ns) (x := v * l) (y := v * r) (by omega) (by omega) h
  rw [← I_mul, ← I_mul, flt_1] at e1
  exact obind e1 (f4_addB hn)
-- the reference's groups of one kind
theorem f10_put {A B : Int → Int} {a d g x y : Int} (h : 0 ≤ g ∧ g < 120) : pX10_put (I a) (I d) (I g) (cz A) (cz B) (I x) (I y) = some (I (a - x), I (d - y), I (g + 1), cz (up A g x), cz (up B g y)) := by
  unfold pX10_put
  simp (disch := omega) only [if_true, if_false, I_add, I_sub, I_mul, I_neg, I_ofNat, Option.bind_some, kIn, I_l0, I_l1, I_l2, I_l3, I_l4, I_l5, I_l6, I_l8, I_l9, I_l10, I_l11, I_l32, I_l40, I_l43, I_l44, I_l45, I_l48, I_l49, I_l57, I_l58, I_l60, I_l61, I_l62, I_l79, I_l80, I_l100, I_l120, I_l180, I_l200, I_l240, I_l300, I_l360, I_l361, I_l362, I_l363, I_l364, I_l365, I_l485, I_l605, I_l1999, I_l2000, I_le, I_lt, I_eq, I_toInt, cz_at, cz_up, if_pos, if_neg]
theorem r10_addY {A B : Int → Int} {gm v l r a d ch : Int} {n p y7 : Int32} {T : Nat → Int32} (hg : 0 ≤ gm ∧ gm + v ≤ 120) (hv : 0 ≤ v) (hl : l = (if ch = 62 then 0 else 1)) (hr : r = (if ch = 60 then 0 else 1)) (hc : 0 ≤ ch ∧ ch ≤ 100) : ∀ (m : Nat) (G H : Int → Int) (k a2 d2 : Int), 0 ≤ k → k ≤ v → v - k < m → a2 = a - k * l → d2 = d - k * r → (∀ i, 0 ≤ i → i < gm + k → G i = exf A gm l i) → (∀ i, 0 ≤ i → i < gm + k → H i = exf B gm r i) → ∃ G2 H2 : Int → Int, (∀ i, 0 ≤ i → i < gm + v → G2 i = exf A gm l i) ∧ (∀ i, 0 ≤ i → i < gm + v → H2 i = exf B gm r i) ∧ pX10_readItem_L199 n T m p (I 1) y7 (I a2) (I d2) (I (gm + k)) (cz G) (cz H) (I v) (I ch) (I k) = some (p, I 1, y7, I (a - v * l), I (d - v * r), I (gm + v), cz G2, cz H2) := by
  intro m
  induction m with
  | zero => intro G H k a2 d2 h0 h1 h2; omega
  | succ m ih =>
    intro G H k a2 d2 h0 h1 h2 ha hd hG hH
    by_cases z : k = v
    · subst z
      have z1 : I k ≤ I k := by rw [I_le (by omega)]; omega
      subst ha hd
      exact ⟨G, H, hG, hH, if_pos z1⟩
    · have z1 : ¬ I v ≤ I k := by rw [I_le (by omega)]; omega
      have f1 : l = 0 ∨ l = 1 := by split at hl <;> omega
      have f2 : r = 0 ∨ r = 1 := by split at hr <;> omega
      obtain ⟨G2, H2, q1, q2, q3⟩ := ih (up G (gm + k) l) (up H (gm + k) r) (k + 1) (a2 - l) (d2 - r) (by omega) (by omega) (by omega) (by rcases f1 with h | h <;> rw [h] at ha ⊢ <;> omega) (by rcases f2 with h | h <;> rw [h] at hd ⊢ <;> omega) (exf_up2 h0 hG) (exf_up2 h0 hH)
      refine ⟨G2, H2, q1, q2, ?_⟩
      have e1 := f10_put (A := G) (B := H) (a := a2) (d := d2) (g := gm + k) (x := l) (y := r) (by omega)
      have e2 : I k + (1 : Int32) = I (k + 1) := by simp only [if_true, if_false, I_add, I_sub, I_mul, I_neg, I_ofNat, Option.bind_some, kIn, I_l0, I_l1, I_l2, I_l3, I_l4, I_l5, I_l6, I_l8, I_l9, I_l10, I_l11, I_l32, I_l40, I_l43, I_l44, I_l45, I_l48, I_l49, I_l57, I_l58, I_l60, I_l61, I_l62, I_l79, I_l80, I_l100, I_l120, I_l180, I_l200, I_l240, I_l300, I_l360, I_l361, I_l362, I_l363, I_l364, I_l365, I_l485, I_l605, I_l1999, I_l2000]
      rw [show gm + (k + 1) = gm + k + 1 by omega, ← e2] at q3
      refine (if_neg z1).trans ((if_neg (by first | decide | (dsimp only; decide))).trans ?_)
      have c1 : I ch = (62 : Int32) ↔ ch = 62 := by rw [I_l62, I_eq (by omega)]
      have c2 : I ch = (60 : Int32) ↔ ch = 60 := by rw [I_l60, I_eq (by omega)]
      have fin : ((pX10_put (I a2) (I d2) (I (gm + k)) (cz G) (cz H) (I l) (I r)).bind fun q6 => pX10_readItem_L199 n T m p (I 1) y7 q6.1 q6.2.1 q6.2.2.1 q6.2.2.2.1 q6.2.2.2.2 (I v) (I ch) (I k + (1 : Int32))) = some (p, I 1, y7, I (a - v * l), I (d - v * r), I (gm + v), cz G2, cz H2) := obind e1 q3
      by_cases w1 : ch = 62
      · rw [if_pos w1] at hl
        rw [if_neg (by omega)] at hr
        rw [hl, hr] at fin
        rw [hl, hr]
        exact (if_pos (c1.mpr w1)).trans ((if_neg (fun t => by have := c2.mp t; omega)).trans fin)
      · rw [if_neg w1] at hl
        by_cases w2 : ch = 60
        · rw [if_pos w2] at hr
          rw [hl, hr] at fin
          rw [hl, hr]
          exact (if_neg (fun t => w1 (c1.mp t))).trans ((if_pos (c2.mpr w2)).trans fin)
        · rw [if_neg w2] at hr
          rw [hl, hr] at fin
          rw [hl, hr]
          exact (if_neg (fun t => w1 (c1.mp t))).trans ((if_neg (fun t => w2 (c2.mp t))).trans fin)
theorem r10_j196B {n p y7 a d g v ch : Int32} {T G H : Nat → Int32} : pX10_readItem_j196 n T p (I 0) y7 a d g G H v ch = some (p, I 0, y7, a, d, g, G, H) := by
  show pX10_readItem_bL199 n T (pX10_readItem_L199 n T 3999) p (I 0) y7 a d g G H v ch (0 : Int32) = _
  by_cases z : v ≤ (0 : Int32)
  · exact if_pos z
  · exact (if_neg z).trans (if_pos (by first | decide | rfl))
theorem r10_j140B {n a d g v ch : Int32} {T G H : Nat → Int32} {p ns : Int} : pX10_readItem_j140 n T (I p) (I 1) (I ns) a d g G H v ch = some (I ns, I 0, I ns, a, d, g, G, H) := by
  have e1 : pX10_needs (I p) (I 1) (I ns) (0 : Int32) = some (I ns, I 0) := f10_needs (x := 0) (by omega)
  unfold pX10_readItem_j140 pX10_readItem_j141
  refine obind e1 ?_
  exact (if_pos rfl).trans r10_j196B
-- the reference's sign behind the number
theorem r10_sgn {S S2 : Int → Int} {n p p2 v c : Int} {a d g : Int32} {G H : Nat → Int32} (h : tx S S2 n) (hp : 0 ≤ p2 ∧ p2 < n) (hc : S p2 = c) (h4 : sgn4 c) {p0 g0 : Int32} (g1 : pX10_number (I n) (cz S2) p0 g0 = some (I v, I p2, I 1, I p)) : pX10_readItem (I n) (cz S2) p0 g0 a d g G H = pX10_readItem_j80 (I n) (cz S2) (I p2) (I 1) (I p) a d g G H (I v) (1 : Int32) (I c) := by
  have hn := h.1
  have h2 := h.2 p2 hp.1 hp.2
  have at1 : ∀ x, 0 ≤ x → x ≤ 65535 → pX10_isAt (I n) (cz S2) (I p2) (I x) (I x) = some (I (if c = x then 1 else 0)) := by
    intro x x0 x1
    rw [f10_isAt h (by omega) (by omega) (by omega)]
    by_cases z : c = x
    · rw [if_pos ⟨hp.2, by omega, by omega⟩, if_pos z]
    · rw [if_neg (fun t => z (by omega)), if_neg z]
  have e1 : pX10_isAt (I n) (cz S2) (I p2) (61 : Int32) (61 : Int32) = _ := at1 61 (by omega) (by omega)
  have e2 : pX10_isAt (I n) (cz S2) (I p2) (60 : Int32) (60 : Int32) = _ := at1 60 (by omega) (by omega)
  have e3 : pX10_isAt (I n) (cz S2) (I p2) (62 : Int32) (62 : Int32) = _ := at1 62 (by omega) (by omega)
  have e4 : pX10_isAt (I n) (cz S2) (I p2) (43 : Int32) (43 : Int32) = _ := at1 43 (by omega) (by omega)
  have e5 : pX10_readItem_j56 (I n) (cz S2) (I p2) (I 1) (I p) a d g G H (I v) = pX10_readItem_j80 (I n) (cz S2) (I p2) (I 1) (I p) a d g G H (I v) (1 : Int32) (I c) := by
    have k1 : kIn (I p2) 80 := by simp (disch := omega) only [if_true, if_false, I_add, I_sub, I_mul, I_neg, I_ofNat, Option.bind_some, kIn, I_l0, I_l1, I_l2, I_l3, I_l4, I_l5, I_l6, I_l8, I_l9, I_l10, I_l11, I_l32, I_l40, I_l43, I_l44, I_l45, I_l48, I_l49, I_l57, I_l58, I_l60, I_l61, I_l62, I_l79, I_l80, I_l100, I_l120, I_l180, I_l200, I_l240, I_l300, I_l360, I_l361, I_l362, I_l363, I_l364, I_l365, I_l485, I_l605, I_l1999, I_l2000, I_toInt]; omega
    have k2 : (cz S2) (I p2).toNatClampNeg = I c := by rw [cz_at (by omega), ← h2.1, hc]
    unfold pX10_readItem_j56 pX10_readItem_j61
    refine (if_neg (by decide)).trans ((if_pos k1).trans ?_)
    rw [k2]
  clear hc at1
  unfold pX10_readItem
  rcases h4 with rfl | rfl | rfl | rfl
  · exact obind g1 ((if_neg (by first | decide | (dsimp only; decide))).trans (obind e1 ((if_neg (by first | decide | (dsimp only; decide))).trans e5)))
  · exact obind g1 ((if_neg (by first | decide | (dsimp only; decide))).trans (obind e1 ((if_pos (by first | decide | rfl)).trans (obind e2 ((if_neg (by first | decide | (dsimp only; decide))).trans e5)))))
  · exact obind g1 ((if_neg (by first | decide | (dsimp only; decide))).trans (obind e1 ((if_pos (by first | decide | rfl)).trans (obind e2 ((if_pos (by first | decide | rfl)).trans (obind e3 ((if_neg (by first | decide | (dsimp only; decide))).trans e5)))))))
  · exact obind g1 ((if_neg (by first | decide | (dsimp only; decide))).trans (obind e1 ((if_pos (by first | decide | rfl)).trans (obind e2 ((if_pos (by first | decide | rfl)).trans (obind e3 ((if_pos (by first | decide | rfl)).trans (obind e4 ((if_neg (by first | decide | (dsimp only; decide))).trans e5)))))))))
theorem r10_j60B {n y7 a d g v : Int32} {T G H : Nat → Int32} {p : Int} {gd : Int32} : pX10_readItem_j60 n T (I p) gd y7 a d g G H v = some (I p, I 0, y7, a, d, g, G, H) := by
  unfold pX10_readItem_j60 pX10_readItem_j61 pX10_readItem_j80
  exact (if_pos rfl).trans (if_pos rfl)
theorem r10_noSgn {S S2 : Int → Int} {n p p2 v : Int} {a d g : Int32} {G H : Nat → Int32} (h : tx S S2 n) (hp : 0 ≤ p2 ∧ p2 ≤ n) (h4 : ¬ (p2 < n ∧ sgn4 (S p2))) {p0 g0 : Int32} (g1 : pX10_number (I n) (cz S2) p0 g0 = some (I v, I p2, I 1, I p)) : pX10_readItem (I n) (cz S2) p0 g0 a d g G H = some (I p2, I 0, I p, a, d, g, G, H) := by
  have hn := h.1
  have at1 : ∀ x, (x = 61 ∨ x = 60 ∨ x = 62 ∨ x = 43) → pX10_isAt (I n) (cz S2) (I p2) (I x) (I x) = some (I 0) := by
    intro x hx
    rw [f10_isAt h (by omega) (by omega) (by omega), if_neg (fun t => h4 ⟨t.1, by unfold sgn4; omega⟩)]
  have e1 : pX10_isAt (I n) (cz S2) (I p2) (61 : Int32) (61 : Int32) = _ := at1 61 (by omega)
  have e2 : pX10_isAt (I n) (cz S2) (I p2) (60 : Int32) (60 : Int32) = _ := at1 60 (by omega)
  have e3 : pX10_isAt (I n) (cz S2) (I p2) (62 : Int32) (62 : Int32) = _ := at1 62 (by omega)
  have e4 : pX10_isAt (I n) (cz S2) (I p2) (43 : Int32) (43 : Int32) = _ := at1 43 (by omega)
  unfold pX10_readItem
  exact obind g1 ((if_neg (by first | decide | (dsimp only; decide))).trans (obind e1 ((if_pos (by first | decide | rfl)).trans (obind e2 ((if_pos (by first | decide | rfl)).trans (obind e3 ((if_pos (by first | decide | rfl)).trans (obind e4 ((if_pos (by first | decide | rfl)).trans r10_j60B)))))))))
theorem r10_numBad {S2 : Int → Int} {n p p2 v : Int} {a d g : Int32} {G H : Nat → Int32} {p0 g0 : Int32} (g1 : pX10_number (I n) (cz S2) p0 g0 = some (I v, I p2, I 0, I p)) : pX10_readItem (I n) (cz S2) p0 g0 a d g G H = some (I p2, I 0, I p, a, d, g, G, H) := obind g1 ((if_pos (by first | decide | rfl)).trans r10_j60B)
