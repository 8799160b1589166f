-- the law types the map and reads it (printed by wip/p24/fun/mk882.py)
def sy (x x' : Sg) : Prop := x'.1 = x.1 ∧ x'.2.1 = x.2.1 ∧ x'.2.2.1 = x.2.2.1 ∧ x'.2.2.2.2 = x.2.2.2.2
theorem dX.sy {x x' : Sg} {c0 l0 o0 : Int → Int} {n0 : Int} {c1 l1 o1 : Int → Int} {n1 : Int} {L R : Int → Int} {g k w0 w1 ph h : Int} (d : dX x c0 l0 o0 n0 c1 l1 o1 n1 L R g k w0 w1 ph h) (e : sy x x') : dX x' c0 l0 o0 n0 c1 l1 o1 n1 L R g k w0 w1 ph h := ⟨by rw [e.1]; exact d.1, by rw [e.2.2.2]; exact d.2.1, d.2.2.1, d.2.2.2.1, d.2.2.2.2.1, by rw [e.2.1]; exact d.2.2.2.2.2.1, d.2.2.2.2.2.2⟩
theorem tX.sy {x x' : Sg} {T : Int → Int} {t : Int} (d : tX x T t) (e : sy x x') : tX x' T t := ⟨by rw [e.2.2.1]; exact d.1, d.2⟩
theorem tX.tx {x : Sg} {T : Int → Int} {t : Int} (d : tX x T t) : tx T T t := ⟨d.2.1, fun i a b => ⟨rfl, d.2.2 i a b⟩⟩
theorem tY2.tr {A B C : Int → Int} {s t : Int} (h1 : tY2 A B s) (h2 : tY2 B C t) (q : s ≤ t) : tY2 A C s := fun i hi => (h2 i (by omega)).trans (h1 i hi)
section TM
variable {x : Sg} {c0 l0 o0 : Int → Int} {n0 : Int} {c1 l1 o1 : Int → Int} {n1 : Int} {L R : Int → Int} {g k w0 w1 ph h : Int} {T : Int → Int} {t : Int}
theorem q_rmF (d : dX x c0 l0 o0 n0 c1 l1 o1 n1 L R g k w0 w1 ph h) (ht : tX x T t) {F : Int} (hF : 0 ≤ F ∧ F ≤ 80) (hr : rmF (pX4_read x.2.2.2.1.1 x.2.2.2.1.2 (cz T) (I t) (I n0) (I n1)) F) : ∃ x' : Sg, sReadMap x = some (I (-100 - F), x') ∧ sy x x' := by
  obtain ⟨⟨⟨v0, v1, v2, v3⟩, ⟨v4, v5, v6, v7⟩, v8, v9, v10⟩, ⟨a0, s0, s1, s2, s3, s4⟩, tx, ⟨nn0, nn1⟩, ⟨y0, y1, y2, y3⟩⟩ := x
  obtain ⟨e, ey, k0, k1, kM, hA, hw0, hw1, hph, hh⟩ := d
  simp only [Prod.mk.injEq] at e ey
  obtain ⟨⟨rfl, rfl, rfl, rfl⟩, ⟨rfl, rfl, rfl, rfl⟩, rfl, rfl, rfl⟩ := e
  obtain ⟨rfl, rfl, rfl, rfl⟩ := ey
  obtain ⟨et, -, -⟩ := ht
  have et2 : tx = (cz T, I t) := et
  subst et2
  obtain ⟨a, dd, A, B, gm, p, f, x4, x5, E⟩ := hr
  have hne : ¬ I F = (-1 : Int32) := by
    rw [show (-1 : Int32) = I (-1) from rfl, I_eq (by omega)]
    omega
  have hs : (-100 : Int32) - I F = I (-100 - F) := by
    rw [show (-100 : Int32) = I (-100) from rfl, I_sub]
  have e2 : nH a0 0 s0 s1 s2 s3 s4 = some (a0, s0, s1, s2, s3, s4) := rfl
  exact ⟨(((cz c0, cz l0, cz o0, I n0), (cz c1, cz l1, cz o1, I n1), (cz L, cz R, I g)), (a0, s0, s1, s2, s3, s4), (cz T, I t), (A, B), (I w0, I w1, I ph, I h)), obind (obind E ((if_neg hne).trans (pr1 hs))) (obind e2 rfl), rfl, rfl, rfl, rfl⟩
theorem q_rmY (d : dX x c0 l0 o0 n0 c1 l1 o1 n1 L R g k w0 w1 ph h) (ht : tX x T t) (hr : rmY (pX4_read x.2.2.2.1.1 x.2.2.2.1.2 (cz T) (I t) (I n0) (I n1)) L R g) : ∃ (x' : Sg) (A B : Int → Int), sReadMap x = some (I g, x') ∧ dX x' c0 l0 o0 n0 c1 l1 o1 n1 A B g (k5 k) w0 w1 ph h ∧ hTp x'.2.1 (k5 k) x.1 ∧ x'.2.2.1 = x.2.2.1 := by
  obtain ⟨⟨⟨v0, v1, v2, v3⟩, ⟨v4, v5, v6, v7⟩, v8, v9, v10⟩, ⟨a0, s0, s1, s2, s3, s4⟩, tx, ⟨nn0, nn1⟩, ⟨y0, y1, y2, y3⟩⟩ := x
  obtain ⟨e, ey, k0, k1, kM, hA, hw0, hw1, hph, hh⟩ := d
  simp only [Prod.mk.injEq] at e ey
  obtain ⟨⟨rfl, rfl, rfl, rfl⟩, ⟨rfl, rfl, rfl, rfl⟩, rfl, rfl, rfl⟩ := e
  obtain ⟨rfl, rfl, rfl, rfl⟩ := ey
  obtain ⟨et, -, -⟩ := ht
  have et2 : tx = (cz T, I t) := et
  subst et2
  obtain ⟨A, B, a, dd, p, f, x4, x5, E, ag⟩ := hr
  obtain ⟨r, t0, t1, t2, t3, t4, hs, e1, e2, e3, e4⟩ := t_record (vL0 := cz c0) (vL1 := cz l0) (vL2 := cz o0) (vL3 := I n0) (vR0 := cz c1) (vR1 := cz l1) (vR2 := cz o1) (vR3 := I n1) (vM0 := cz L) (vM1 := cz R) (vM2 := I g) hA ⟨c0, l0, o0, n0, c1, l1, o1, n1, L, R, g, rfl, k0, k1, kM⟩
  have kM2 : okM g A B n0 n1 := by
    refine ⟨kM.1, fun i p q => ?_, ?_, ?_⟩
    · rw [(ag i p q).1, (ag i p q).2]
      exact kM.2.1 i p q
    · rw [← kM.2.2.1]
      exact Sm_congr kM.1.1 (fun i p q => (ag i p q).1)
    · rw [← kM.2.2.2]
      exact Sm_congr kM.1.1 (fun i p q => (ag i p q).2)
  exact ⟨(((cz c0, cz l0, cz o0, I n0), (cz c1, cz l1, cz o1, I n1), (cz A, cz B, I g)), hs, (cz T, I t), (cz A, cz B), (I w0, I w1, I ph, I h)), A, B, obind (obind E ((if_pos rfl).trans (obind e1 (obind f1_copyFrom rfl)))) (obind e2 rfl), ⟨rfl, rfl, k0, k1, kM2, e4, hw0, hw1, hph, hh⟩, e3, rfl⟩
theorem rest_of (kM : okM g L R n0 n1) (b : n0 ≤ 60 ∧ n1 ≤ 60) {m : Int} (hm : m ≤ g) : rest L R m n0 n1 ∧ ∀ j, 0 ≤ j → j ≤ g → (0 ≤ Sm L j ∧ Sm L j ≤ n0) ∧ 0 ≤ Sm R j ∧ Sm R j ≤ n1 := by
  have hS : ∀ i, 0 ≤ i → i < g → 0 ≤ L i := fun i a z => (okM_S (b := 0) kM i a z).1
  have hO : ∀ i, 0 ≤ i → i < g → 0 ≤ R i := fun i a z => (okM_S (b := 1) kM i a z).1
  have q : ∀ j, 0 ≤ j → j ≤ g → (0 ≤ Sm L j ∧ Sm L j ≤ n0) ∧ 0 ≤ Sm R j ∧ Sm R j ≤ n1 := fun j a z => by
    have h1 := sm_in (S := L) hS (n := n0) kM.2.2.1 (i := j) ⟨a, z⟩
    have h2 := sm_in (S := R) hO (n := n1) kM.2.2.2 (i := j) ⟨a, z⟩
    omega
  refine ⟨⟨b, fun j a z => ?_⟩, q⟩
  have q0 := q j a (by omega)
  have q1 := q (j + 1) (by omega) (by omega)
  rw [Sm_s a, Sm_s a] at q1
  omega
-- behind the whole map: a pair more, then undone
theorem tm_223 {y : Sg} {A B P : Int → Int} {u : Int} {t0 : Int32} (d : dX y c0 l0 o0 n0 c1 l1 o1 n1 L R g k w0 w1 ph h) (d1 : dX x c0 l0 o0 n0 c1 l1 o1 n1 A B g (k5 k) w0 w1 ph h) (e3 : hTp x.2.1 (k5 k) y.1) (ht : tX x T u) (hg : 1 ≤ g ∧ g ≤ 12) (hs : sp T P L R g u) (he : P (g - 1) = u) (hu : 0 ≤ u ∧ u ≤ 72) : ∃ x', pL_maps_j223 x (I g) (I u) t0 t0 = some (I 1, x') ∧ lX x' w0 w1 ph h := by
  have kM := d.2.2.2.2.1
  have b0 := d.b0.1.1
  have b1 := d.b1.1.1
  have kA := d.2.2.2.2.2.1
  have hk : 0 ≤ k ∧ k ≤ 5 := kA.2.1
  have hk5 := k5_bd hk
  obtain ⟨x2, T2, E2, h2, s2, k2, y2⟩ := T_type ht (y := 44) (by omega) (by omega)
  obtain ⟨x3, T3, E3, h3, s3, k3, y3⟩ := T_type h2 (y := 49) (by omega) (by omega)
  obtain ⟨x4, T4, E4, h4, s4, k4, y4⟩ := T_type h3 (y := 61) (by omega) (by omega)
  have S := s2.tr (s3.tr s4)
  have d4 := d1.sx S
  have Y : tY2 T T4 u := fun i hi => by rw [y4 i (by omega), y3 i (by omega), y2 i hi]
  have q44 : T4 u = 44 := by rw [y4 u (by omega), y3 u (by omega)]; exact k2
  have q49 : T4 (u + 1) = 49 := by rw [y4 (u + 1) (by omega)]; exact k3
  have sp4 := hs.more Y (n' := u + 1 + 1 + 1) (by omega) (fun _ => q44)
  have hr := (rest_of kM ⟨b0.2, b1.2⟩ (m := g) (Int.le_refl _)).1
  have F := rm_more h4.tx hg sp4 (by rw [he]; exact q44) (by rw [he]; exact q49) (by rw [he]; exact k4) (by omega) hr ⟨kM.2.2.1, kM.2.2.2⟩ (f0 := x4.2.2.2.1.1) (f1 := x4.2.2.2.1.2)
  obtain ⟨x5, E5, s5⟩ := q_rmF d4 h4 (F := P (g - 1) + 1) (by omega) F
  have d5 := d4.sy s5
  have h5 := h4.sy s5
  have e5 : hTp x5.2.1 (k5 k) y.1 := by rw [s5.2.1, S.2.1]; exact e3
  obtain ⟨E6, hA6, -⟩ := s_undo d5 e5
  have d6 : dX (y.1, (I (k5 k - 1), x5.2.1.2), x5.2.2) c0 l0 o0 n0 c1 l1 o1 n1 L R g (k5 k - 1) w0 w1 ph h := ⟨d.1, d5.2.1, d.2.2.1, d.2.2.2.1, kM, hA6, d.2.2.2.2.2.2⟩
  refine ⟨_, ?_, ⟨⟨_, _, _, _, _, _, _, _, _, _, _, _, d6⟩, T4, _, ⟨h5.1, h5.2⟩⟩⟩
  have e1 : I (-100 - (P (g - 1) + 1)) = (-101 : Int32) - I u := by
    rw [show (-101 : Int32) = I (-101) from rfl, I_sub, he, show -101 - u = -100 - (u + 1) by omega]
  unfold pL_maps_j223
  exact (if_pos rfl).trans (obind E2 (obind E3 (obind E4 (obind E5 ((if_pos e1).trans (obind E6 ((if_neg (by rw [I_l0, I_lt (by omega)]; omega)).trans (obind (q_c4 d6) (if_pos rfl)))))))))
theorem tm_end {P : Int → Int} {u : Int} (d : dX x c0 l0 o0 n0 c1 l1 o1 n1 L R g k w0 w1 ph h) (ht : tX x T u) (hg : 1 ≤ g ∧ g ≤ 12) (hs : sp T P L R g u) (he : P (g - 1) = u) (hu : 0 ≤ u ∧ u ≤ 72) (fu : Nat) : ∃ x', pL_maps_L43 (fu + 1) x (I g) (I 1) (I u) (I g) = some (I 1, x') ∧ lX x' w0 w1 ph h := by
  have kM := d.2.2.2.2.1
  have b0 := d.b0.1.1
  have b1 := d.b1.1.1
  have hk : 0 ≤ k ∧ k ≤ 5 := d.2.2.2.2.2.1.2.1
  obtain ⟨hr, hq⟩ := rest_of kM ⟨b0.2, b1.2⟩ (m := g) (Int.le_refl _)
  have q := hq g (by omega) (Int.le_refl _)
  have F := (rm_end ht.tx hg hs he hr (by omega) (f0 := x.2.2.2.1.1) (f1 := x.2.2.2.1.2)).1 ⟨kM.2.2.1, kM.2.2.2⟩
  obtain ⟨x1, A, B, E1, d1, e3, e4⟩ := q_rmY d ht F
  have h1 : tX x1 T u := ⟨by rw [e4]; exact ht.1, ht.2⟩
  obtain ⟨x', E', l⟩ := tm_223 (t0 := I (k5 k)) d d1 e3 h1 hg hs he hu
  refine ⟨x', ?_, l⟩
  show pL_maps_bL43 _ _ _ _ _ _ = _
  unfold pL_maps_bL43
  refine (if_pos (by rw [I_le (by omega)]; omega)).trans (obind (q_c11 d) (obind E1 ((if_pos rfl).trans (obind (q_c11 d1) ?_))))
  by_cases z : 5 ≤ k
  · rw [if_pos (by rw [I_l5, I_le (by omega)]; exact z)]
    rw [show k5 k = 5 by unfold k5; rw [if_neg (by omega)]] at E' ⊢
    exact E'
  · rw [if_neg (by rw [I_l5, I_le (by omega)]; exact z), I_l1, I_add]
    rw [show k5 k = k + 1 by unfold k5; rw [if_pos (by omega)]] at E' ⊢
    exact E'
-- what a step goes on to
def tmK (c0 l0 o0 : Int → Int) (n0 : Int) (c1 l1 o1 : Int → Int) (n1 : Int) (L R : Int → Int) (g k w0 w1 ph h i : Int) (K : Sg → Int32 → Int32 → Int32 → Int32 → Option (Int32 × Sg)) : Prop := ∀ (y : Sg) (U P : Int → Int) (u : Int), dX y c0 l0 o0 n0 c1 l1 o1 n1 L R g k w0 w1 ph h → tX y U u → sp U P L R (i + 1) u → P i = u → u + 1 ≤ 6 * (i + 1) → ∃ x', K y (I g) (I 1) (I u) (I (i + 1)) = some (I 1, x') ∧ lX x' w0 w1 ph h
theorem tm_160 {P : Int → Int} {u i : Int} {K : Sg → Int32 → Int32 → Int32 → Int32 → Option (Int32 × Sg)} (kk : tmK c0 l0 o0 n0 c1 l1 o1 n1 L R g k w0 w1 ph h i K) (d : dX x c0 l0 o0 n0 c1 l1 o1 n1 L R g k w0 w1 ph h) (ht : tX x T u) (hg : 1 ≤ g ∧ g ≤ 12) (hi : 0 ≤ i ∧ i < g) (hs : sp T P L R (i + 1) u) (he : P i = u) (hu : u + 1 ≤ 6 * (i + 1)) : ∃ x', pL_maps_j160 K x (I g) (I 1) (I u) (I i) = some (I 1, x') ∧ lX x' w0 w1 ph h := by
  have kM := d.2.2.2.2.1
  have b0 := d.b0.1.1
  have b1 := d.b1.1.1
  have hn := ht.2.1
  unfold pL_maps_j160
  by_cases z : g - 1 ≤ i
  · obtain ⟨x', E, l⟩ := kk x T P u d ht hs he hu
    refine ⟨x', (if_pos (by rw [I_l1, I_sub, I_le (by omega)]; exact z)).trans ?_, l⟩
    unfold pL_maps_j181
    rw [I_l1, I_add]
    exact E
  · obtain ⟨hr, hq⟩ := rest_of kM ⟨b0.2, b1.2⟩ (m := i + 1) (by omega)
    have q := hq (i + 1) (by omega) (by omega)
    have q2 := hq (i + 1 + 1) (by omega) (by omega)
    have sl : Sm L (i + 1 + 1) = Sm L (i + 1) + L (i + 1) := Sm_s (by omega)
    have sr : Sm R (i + 1 + 1) = Sm R (i + 1) + R (i + 1) := Sm_s (by omega)
    have q3 := kM.2.1 (i + 1) (by omega) (by omega)
    have e1 : i + 1 - 1 = i := by omega
    have F := (rm_end ht.tx (m := i + 1) (by omega) hs (by rw [e1]; exact he) hr (by omega) (f0 := x.2.2.2.1.1) (f1 := x.2.2.2.1.2)).2 (by omega)
    obtain ⟨x1, E1, s1⟩ := q_rmF d ht (F := u) hn F
    obtain ⟨x', E, l⟩ := kk x1 T P u (d.sy s1) (ht.sy s1) hs he hu
    have e2 : I (-100 - u) = (-100 : Int32) - I u := by
      rw [show (-100 : Int32) = I (-100) from rfl, I_sub]
    refine ⟨x', (if_neg (by rw [I_l1, I_sub, I_le (by omega)]; exact z)).trans (obind E1 ((if_pos e2).trans ?_)), l⟩
    unfold pL_maps_j181
    rw [I_l1, I_add]
    exact E
-- one item typed, v the place where it starts
theorem tm_61 {U P : Int → Int} {u v i : Int} {K : Sg → Int32 → Int32 → Int32 → Int32 → Option (Int32 × Sg)} (kk : tmK c0 l0 o0 n0 c1 l1 o1 n1 L R g k w0 w1 ph h i K) (d : dX x c0 l0 o0 n0 c1 l1 o1 n1 L R g k w0 w1 ph h) (ht : tX x T v) (hg : 1 ≤ g ∧ g ≤ 12) (hi : 0 ≤ i ∧ i < g) (hs : sp U P L R i u) (hv : (i = 0 ∧ u = 0 ∧ v = 0) ∨ (0 < i ∧ P (i - 1) = u ∧ v = u + 1 ∧ T u = 44)) (yU : tY2 U T u) (hu : 0 ≤ u ∧ v ≤ 6 * i) : ∃ x', pL_maps_j61 K x (I g) (I 1) (I i) = some (I 1, x') ∧ lX x' w0 w1 ph h := by
  have kM := d.2.2.2.2.1
  have b0 := d.b0.1.1
  have b1 := d.b1.1.1
  have hvb : 0 ≤ v := ht.2.1.1
  obtain ⟨hr, hq⟩ := rest_of kM ⟨b0.2, b1.2⟩ (m := i) (by omega)
  have q := hq i hi.1 (by omega)
  have q2 := hq (i + 1) (by omega) (by omega)
  rw [Sm_s hi.1, Sm_s hi.1] at q2
  have q3 := kM.2.1 i hi.1 hi.2
  have st : stp P i = v := by
    unfold stp
    rcases hv with ⟨a, b, c⟩ | ⟨a, b, c, e⟩
    · rw [if_pos a, c]
    · rw [if_neg (by omega), b, c]
  have spW : ∀ (W : Int → Int) (w : Int), tY2 T W v → v ≤ w → sp W P L R i w := fun W w y hw => by
    rcases hv with ⟨a, b, c⟩ | ⟨a, b, c, e⟩
    · intro j j0 j1
      omega
    · exact hs.more (yU.tr y (by omega)) (by omega) (fun _ => by rw [y u (by omega)]; exact e)
  have fin : ∀ (z : Sg) (W : Int → Int) (w : Int), dX z c0 l0 o0 n0 c1 l1 o1 n1 L R g k w0 w1 ph h → tX z W w → tY2 T W v → itm2 W v w (L i) (R i) → ∃ x', pL_maps_j160 K z (I g) (I 1) (I w) (I i) = some (I 1, x') ∧ lX x' w0 w1 ph h := fun z W w dz hz y it => by
    have ib := it.bd
    exact tm_160 kk dz hz hg hi ((spW W w y (by omega)).add hi.1 (by rw [st]; exact it) (by omega)) (up_at rfl) (by omega)
  have j126 : L i ≤ 0 ∨ R i ≤ 0 → ∃ x', pL_maps_j126 K x (I g) (I 1) (I i) (I (L i)) (I (R i)) = some (I 1, x') ∧ lX x' w0 w1 ph h := fun hz => by
    unfold pL_maps_j126
    by_cases z : L i + R i ≤ 1
    · obtain ⟨x1, T1, p, E1, h1, s1, g1, y1⟩ := T_digits ht (v := 1) (by omega) (by omega)
      have gb := g1.bd
      have gp : p = v + 1 := by rcases g1 with ⟨a, b, c⟩ | ⟨a, b, c, e⟩ <;> omega
      by_cases zl : L i ≤ 0
      · obtain ⟨x2, T2, E2, h2, s2, k2, y2⟩ := T_type h1 (y := 62) (by omega) (by omega)
        obtain ⟨x', E, l⟩ := fin x2 T2 (p + 1) (d.sx (s1.tr s2)) h2 (y1.tr y2 (by omega)) (Or.inr (Or.inr ⟨by omega, by rw [show p + 1 - 1 = p by omega]; exact g1.lo y2, by rw [show p + 1 - 1 = p by omega]; exact k2⟩))
        refine ⟨x', (if_pos (by rw [I_add, I_l1, I_le (by omega)]; exact z)).trans (obind E1 ((if_pos (by rw [I_l0, I_le (by omega)]; exact zl)).trans ?_)), l⟩
        unfold pL_maps_j156
        exact obind E2 E
      · obtain ⟨x2, T2, E2, h2, s2, k2, y2⟩ := T_type h1 (y := 60) (by omega) (by omega)
        obtain ⟨x', E, l⟩ := fin x2 T2 (p + 1) (d.sx (s1.tr s2)) h2 (y1.tr y2 (by omega)) (Or.inr (Or.inl ⟨by omega, by rw [show p + 1 - 1 = p by omega]; exact g1.lo y2, by rw [show p + 1 - 1 = p by omega]; exact k2⟩))
        refine ⟨x', (if_pos (by rw [I_add, I_l1, I_le (by omega)]; exact z)).trans (obind E1 ((if_neg (by rw [I_l0, I_le (by omega)]; exact zl)).trans ?_)), l⟩
        unfold pL_maps_j156
        exact obind E2 E
    · exact ⟨x, (if_neg (by rw [I_add, I_l1, I_le (by omega)]; exact z)).trans (if_pos (Or.inr rfl)), ⟨⟨_, _, _, _, _, _, _, _, _, _, _, _, d⟩, _, _, ht⟩⟩
  unfold pL_maps_j61
  by_cases zl : L i ≤ 0
  · obtain ⟨x', E, l⟩ := j126 (Or.inl zl)
    exact ⟨x', obind (q_g2 d hi) (obind (q_g4 d hi) ((if_pos (by rw [I_l0, I_le (by omega)]; exact zl)).trans E)), l⟩
  by_cases zr : R i ≤ 0
  · obtain ⟨x', E, l⟩ := j126 (Or.inr zr)
    exact ⟨x', obind (q_g2 d hi) (obind (q_g4 d hi) ((if_neg (by rw [I_l0, I_le (by omega)]; exact zl)).trans ((if_pos (by rw [I_l0, I_le (by omega)]; exact zr)).trans E))), l⟩
  obtain ⟨x1, T1, p, E1, h1, s1, g1, y1⟩ := T_digits ht (v := L i) (by omega) (by omega)
  have gb := g1.bd
  obtain ⟨x2, T2, E2, h2, s2, k2, y2⟩ := T_type h1 (y := 43) (by omega) (by omega)
  have d2 := d.sx (s1.tr s2)
  have g2 := g1.lo y2
  have F : rmF (pX4_read x2.2.2.2.1.1 x2.2.2.2.1.2 (cz T2) (I (p + 1)) (I n0) (I n1)) (p + 1) := by
    rcases hv with ⟨a, b, c⟩ | ⟨a, b, c, e⟩
    · rw [c] at g2
      rw [a, Sm_0, Sm_0] at q
      rw [a, Sm_0, Sm_0] at q2
      rw [a] at g2 q3 zl zr
      exact rm_plus0 h2.tx (a := L 0) (by omega) g2 k2 rfl (by omega)
    · have sp2 := spW T2 (p + 1) (y1.tr y2 (by omega)) (by omega)
      refine rm_plus h2.tx (m := i) (a := L i) (p := p) (by omega) sp2 ?_ (by omega) ?_ k2 rfl hr (by omega)
      · rw [b, y2 u (by omega), y1 u (by omega)]
        exact e
      · rw [b, ← c]
        exact g2
  obtain ⟨x3, E3, s3⟩ := q_rmF d2 h2 (F := p + 1) (by omega) F
  obtain ⟨x4, T4, p4, E4, h4, s4, g4, y4⟩ := T_digits (h2.sy s3) (v := R i) (by omega) (by omega)
  have gb4 := g4.bd
  obtain ⟨x', E, l⟩ := fin x4 T4 p4 ((d2.sy s3).sx s4) h4 ((y1.tr y2 (by omega)).tr y4 (by omega)) (Or.inl ⟨p, ⟨by omega, by omega⟩, g2.lo (y4.mo (by omega)), by rw [y4 p (by omega)]; exact k2, g4⟩)
  have e2 : I (-100 - (p + 1)) = (-100 : Int32) - I (p + 1) := by
    rw [show (-100 : Int32) = I (-100) from rfl, I_sub]
  exact ⟨x', obind (q_g2 d hi) (obind (q_g4 d hi) ((if_neg (by rw [I_l0, I_le (by omega)]; exact zl)).trans ((if_neg (by rw [I_l0, I_le (by omega)]; exact zr)).trans (obind E1 (obind E2 (obind E3 ((if_pos e2).trans (obind E4 E)))))))), l⟩
theorem tm_43 (hg : 1 ≤ g ∧ g ≤ 12) : ∀ (dd : Nat) (i : Int) (fu : Nat) (y : Sg) (U P : Int → Int) (u : Int), i + dd = g → 0 ≤ i → dd < fu → dX y c0 l0 o0 n0 c1 l1 o1 n1 L R g k w0 w1 ph h → tX y U u → sp U P L R i u → (i = 0 → u = 0) → (0 < i → P (i - 1) = u) → (0 < i → u + 1 ≤ 6 * i) → ∃ x', pL_maps_L43 fu y (I g) (I 1) (I u) (I i) = some (I 1, x') ∧ lX x' w0 w1 ph h := by
  intro dd
  induction dd with
  | zero =>
    intro i fu y U P u h0 h1 h2 d ht hs hz hp hu
    obtain rfl : i = g := by omega
    obtain ⟨fu, rfl⟩ : ∃ f, fu = f + 1 := ⟨fu - 1, by omega⟩
    exact tm_end d ht hg hs (hp (by omega)) ⟨ht.2.1.1, by have := hu (by omega); omega⟩ fu
  | succ dd ih =>
    intro i fu y U P u h0 h1 h2 d ht hs hz hp hu
    obtain ⟨fu, rfl⟩ : ∃ f, fu = f + 1 := ⟨fu - 1, by omega⟩
    have kk : tmK c0 l0 o0 n0 c1 l1 o1 n1 L R g k w0 w1 ph h i (pL_maps_L43 fu) := fun y' U' P' u' d' ht' hs' he' hu' => ih (i + 1) fu y' U' P' u' (by omega) (by omega) (by omega) d' ht' hs' (fun q => by omega) (fun _ => by rw [show i + 1 - 1 = i by omega]; exact he') (fun _ => hu')
    have ng : ¬ I g ≤ I i := by rw [I_le (by omega)]; omega
    have hub := ht.2.1
    by_cases z : i ≤ 0
    · have i0 : i = 0 := by omega
      obtain ⟨x', E, l⟩ := tm_61 (U := U) (P := P) (u := u) kk d ht hg ⟨h1, by omega⟩ hs (Or.inl ⟨i0, hz i0, hz i0⟩) (fun _ _ => rfl) (by omega)
      refine ⟨x', ?_, l⟩
      show pL_maps_bL43 _ _ _ _ _ _ = _
      unfold pL_maps_bL43
      exact (if_neg ng).trans ((if_pos (by rw [I_l0, I_le (by omega)]; exact z)).trans E)
    · have hlt0 : u + 1 ≤ 6 * i := hu (by omega)
      obtain ⟨x2, T2, E2, h2', s2, k2, y2⟩ := T_type ht (y := 44) (by omega) (by omega)
      have hpi := hp (by omega)
      have hlt : u + 1 ≤ 6 * i := hu (by omega)
      obtain ⟨x', E, l⟩ := tm_61 (U := U) (P := P) (u := u) kk (d.sx s2) h2' hg ⟨h1, by omega⟩ hs (Or.inr ⟨by omega, hpi, rfl, k2⟩) y2 (by omega)
      refine ⟨x', ?_, l⟩
      show pL_maps_bL43 _ _ _ _ _ _ = _
      unfold pL_maps_bL43
      exact (if_neg ng).trans ((if_neg (by rw [I_l0, I_le (by omega)]; exact z)).trans (obind E2 E))
theorem T_maps (d : dX x c0 l0 o0 n0 c1 l1 o1 n1 L R g k w0 w1 ph h) (ht : tX x T t) : ∃ x', pL_maps x = some (I 1, x') ∧ lX x' w0 w1 ph h := by
  have hg := d.2.2.2.2.1.1
  obtain ⟨x1, E1, h1, s1⟩ := T_clear ht
  have d1 := d.sx s1
  obtain ⟨x2, E2, s2⟩ := q_rmF d1 h1 (F := 0) (by omega) (rm_0 h1.tx)
  have d2 := d1.sy s2
  have h2 := h1.sy s2
  have fin : ∃ x', pL_maps_j25 x2 (I g) (1 : Int32) = some (I 1, x') ∧ lX x' w0 w1 ph h := by
    unfold pL_maps_j25
    by_cases z : g = 0
    · exact ⟨x2, (if_pos (by rw [z]; rfl)).trans (if_pos (Or.inr rfl)), ⟨⟨_, _, _, _, _, _, _, _, _, _, _, _, d2⟩, _, _, h2⟩⟩
    · by_cases q : g ≤ 12
      · obtain ⟨x', E, l⟩ := tm_43 (c0 := c0) (l0 := l0) (o0 := o0) (n0 := n0) (c1 := c1) (l1 := l1) (o1 := o1) (n1 := n1) (L := L) (R := R) (g := g) (k := k) (w0 := w0) (w1 := w1) (ph := ph) (h := h) (by omega) g.toNat 0 4000 x2 T (fun _ => 0) 0 (by omega) (by omega) (by omega) d2 h2 (fun i a b => by omega) (fun _ => rfl) (fun z => by omega) (fun z => by omega)
        exact ⟨x', (if_neg (by rw [I_l0, I_eq (by omega)]; exact z)).trans ((if_pos (by rw [I_l12, I_le (by omega)]; exact q)).trans E), l⟩
      · exact ⟨x2, (if_neg (by rw [I_l0, I_eq (by omega)]; exact z)).trans ((if_neg (by rw [I_l12, I_le (by omega)]; exact q)).trans (if_pos (Or.inr rfl))), ⟨⟨_, _, _, _, _, _, _, _, _, _, _, _, d2⟩, _, _, h2⟩⟩
  obtain ⟨x', E, l⟩ := fin
  refine ⟨x', obind (q_c4 d) (obind E1 (obind E2 ((if_pos rfl).trans E))), l⟩
end TM
