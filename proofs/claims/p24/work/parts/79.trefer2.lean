-- the law types references and reads them (printed by wip/p24/fun/mk79b.py)
theorem tY2.mo {A B : Int → Int} {s t : Int} (h : tY2 A B t) (q : s ≤ t) : tY2 A B s := fun i hi => h i (by omega)
theorem dg.fn {A B : Int → Int} {a p q v : Int} (h1 : dg A a p v) (h2 : dg B a q v) : p = q := by
  rcases h1 with ⟨a, b, c⟩ | ⟨a, b, c, d⟩ <;> rcases h2 with ⟨a', b', c'⟩ | ⟨a', b', c', d'⟩ <;> omega
theorem ch_of {N v : Int} {c l o : Int → Int} (h : okB N c l o) (hv : 0 ≤ v ∧ v < N) : ∃ j, isF c (c v) N j ∧ (1 ≤ c v ∧ c v ≤ 10) ∧ c v ≤ at0 c N (N - 1) ∧ 1 ≤ v - j + 1 ∧ v - j + 1 ≤ 60 ∧ v - j + 1 ≤ cnt c (c v) N := by
  obtain ⟨j, hj⟩ := ex_F (P := c) (p := c v) (g := N) ⟨v, hv.1, hv.2, rfl⟩
  have hN := h.1
  have b := (h.2 v hv.1 hv.2).2.2.1
  have e : c v ≤ at0 c N (N - 1) := by
    rw [at0_in (by omega)]
    exact okB_mono h hv.1 (by omega) (by omega)
  obtain ⟨⟨r1, r2⟩, r3, -, -, r4⟩ := ch_run h hj
  have hj1 := hj.1
  have hjv : j ≤ v := by
    by_cases q : j ≤ v
    · exact q
    · exact absurd rfl (hj.2.2 v hv.1 (by omega))
  have hc : v < j + cnt c (c v) N := by
    by_cases q : v < j + cnt c (c v) N
    · exact q
    · rcases r4 with ⟨r4, -⟩ | ⟨r4, r5⟩
      · omega
      · have m := okB_mono h (i := j + cnt c (c v) N) (k := v) (by omega) (by omega) hv.2
        rw [r5.2.1] at m
        omega
  exact ⟨j, hj, b, e, by omega, by omega, by omega⟩

section RT0
variable {x : Sg} {c0 l0 o0 : Int → Int} {n0 : Int} {c1 l1 o1 : Int → Int} {n1 : Int} {L R : Int → Int} {g k w0 w1 ph h : Int} {T : Int → Int} {t : Int}
theorem rf_548_0 (d : dX x c0 l0 o0 n0 c1 l1 o1 n1 L R g k w0 w1 ph h) (ht : tX x T t) {v j p : Int} {T0 : Int → Int} (hv : 0 ≤ v ∧ v < n0) (hj : isF c0 (c0 v) n0 j) (bz : 1 ≤ c0 v ∧ c0 v ≤ 10) (ez : c0 v ≤ at0 c0 n0 (n0 - 1)) (g0 : dg T0 0 p (c0 v)) : ∃ (x' : Sg) (T' : Int → Int) (t' : Int), pL_refers_j548 x (I 0) (I v) (I (p + 1)) (I 1) (I 1) = some (I 1, x') ∧ sx x x' ∧ tX x' T' t' := by
  have kB := d.2.2.1
  obtain ⟨x9, E9, h9, s9⟩ := T_clear ht
  obtain ⟨x10, T10, q, E10, h10, s10, g10, y10⟩ := T_digits h9 (v := c0 v) (by omega) (by omega)
  obtain rfl := g0.fn g10
  have gb := g10.bd
  obtain ⟨x11, T11, E11, h11, s11, k11, y11⟩ := T_type h10 (y := 58) (by omega) (by omega)
  obtain ⟨x12, T12, E12, h12, s12, k12, y12⟩ := T_type h11 (y := 48) (by omega) (by omega)
  have S := s9.tr (s10.tr (s11.tr s12))
  have d9 := d.sx s9
  have d12 := d.sx S
  have g12 : dg T12 0 p (c0 v) := (g10.lo y11).lo (y12.mo (by omega))
  have k58 : T12 p = 58 := (y12 p (by omega)).trans k11
  have a := rd_b (T := T12) (n := p + 1 + 1) (by omega) h12.2.2 kB (g12.nu (n := p + 1 + 1) (by omega) (by omega) (by omega) (Or.inr (by omega))) ⟨by omega, ez⟩
  have f : ok6 (pX6_read (cz T12) (I (p + 1 + 1)) (cz c0) (I n0)) (p + 1) := by
    rw [a]
    exact rd_bF (by omega) h12.2.2 kB (by omega) k58 (by rw [at0_in (by omega)]; omega) (by omega)
  have R12 : sRefer x12 (I 0) (I 0) = some (I (-100 - (p + 1))) := q_refF0 d12 h12 (F := p + 1) (y := 0) (by omega) (by omega) f
  refine ⟨x12, T12, _, ?_, S, h12⟩
  have e : I (-100 - (p + 1)) = (-100 : Int32) - I (p + 1) := by
    rw [show (-100 : Int32) = I (-100) from rfl, I_sub]
  unfold pL_refers_j548
  refine obind E9 (obind (q_v0 d9.b0 hv hj) (obind E10 (obind E11 (obind E12 (obind R12 ((if_pos e).trans ?_))))))
  unfold pL_refers_j601
  exact (if_neg (by decide)).trans ((if_neg (by decide)).trans ((if_neg (by decide)).trans (obind (q_refW0 d12) (if_pos rfl))))
theorem rf_235_0 (d : dX x c0 l0 o0 n0 c1 l1 o1 n1 L R g k w0 w1 ph h) (ht : tX x T t) {v w j j2 p nv i1 i2 : Int} (hv : 0 ≤ v ∧ v ≤ w ∧ w < n0) (hj : isF c0 (c0 v) n0 j) (bz : 1 ≤ c0 v ∧ c0 v ≤ 10) (ez : c0 v ≤ at0 c0 n0 (n0 - 1)) (env : nv = v - j + 1) (bn : 1 ≤ nv ∧ nv ≤ 60 ∧ nv ≤ cnt c0 (c0 v) n0) (hj2 : isF c0 (c0 w) n0 j2) (bz2 : 1 ≤ c0 w ∧ c0 w ≤ 10) (ez2 : c0 w ≤ at0 c0 n0 (n0 - 1)) (bn2 : 1 ≤ w - j2 + 1 ∧ w - j2 + 1 ≤ 60 ∧ w - j2 + 1 ≤ cnt c0 (c0 w) n0) (h1 : 0 ≤ i1 ∧ i1 < g) (h2 : 0 ≤ i2 ∧ i2 < g) (a1 : Sm L i1 ≤ v) (a2 : v < Sm L (i1 + 1)) (b1 : Sm L i2 ≤ w) (b2 : w < Sm L (i2 + 1)) {p4 : Int} (htl : t = p4 + 1) (g5z : dg T 0 p (c0 v)) (k5 : T p = 58) (g5n : dg T (p + 1) p4 nv) (k5b : T p4 = 45) : ∃ (x' : Sg) (T' : Int → Int) (t' : Int), pL_refers_j235 x (I 0) (I v) (I w) (I (p + 1)) (I 1) = some (I 1, x') ∧ sx x x' ∧ tX x' T' t' := by
  subst htl
  have kB := d.2.2.1
  have kM := d.2.2.2.2.1
  have hg := kM.1
  have gz := g5z.bd
  have gn := g5n.bd
  have hc : c0 v ≤ c0 w := okB_mono kB hv.1 hv.2.1 hv.2.2
  obtain ⟨x6, T6, p6, E6, h6, s6, g6, y6⟩ := T_digits ht (v := c0 w) (by omega) (by omega)
  have gb6 := g6.bd
  obtain ⟨x7, T7, E7, h7, s7, k7, y7⟩ := T_type h6 (y := 58) (by omega) (by omega)
  obtain ⟨x8, T8, p8, E8, h8, s8, g8, y8⟩ := T_digits h7 (v := w - j2 + 1) (by omega) (by omega)
  have gb8 := g8.bd
  have S := s6.tr (s7.tr s8)
  have d8 := d.sx S
  have d7 := d.sx (s6.tr s7)
  have Y : tY2 T T8 (p4 + 1) := fun i hi => by rw [y8 i (by omega), y7 i (by omega), y6 i hi]
  have g8z := g5z.lo (Y.mo (by omega))
  have k8 : T8 p = 58 := (Y p (by omega)).trans k5
  have g8n := g5n.lo (Y.mo (by omega))
  have k8b : T8 p4 = 45 := (Y p4 (by omega)).trans k5b
  have g8w : dg T8 (p4 + 1) p6 (c0 w) := (g6.lo y7).lo (y8.mo (by omega))
  have k8c : T8 p6 = 58 := (y8 p6 (by omega)).trans k7
  have A := rd_b (T := T8) (n := p8) (by omega) h8.2.2 kB (g8z.nu (n := p8) (by omega) (by omega) (by omega) (Or.inr (by omega))) ⟨by omega, ez⟩
  have B := rd_c (T := T8) (n := p8) (p := p) (p2 := p4) (v := nv) (z := c0 v) (by omega) h8.2.2 kB (by omega) k8 (g8n.nu (n := p8) (by omega) (by omega) (by omega) (Or.inr (by omega))) hj bz ⟨bn.1, bn.2.2⟩
  rw [show j + nv - 1 = v by omega] at B
  have C := rd_c2 (T := T8) (c := c0) (N := n0) (n := p8) (p := p4) (x := c0 v) (first := v) (a := I nv) (b := I (p + 1)) (by omega) h8.2.2 (by omega) k8b
  have D := rd_d (T := T8) (n := p8) (p := p4 + 1) (q := p6) (x := c0 v) (first := v) (z2 := c0 w) (v2 := w - j2 + 1) (j2 := j2) (by omega) h8.2.2 kB (by omega) (g8w.nu (n := p8) (by omega) (by omega) (by omega) (Or.inr (by omega))) k8c (g8.nu (n := p8) (by omega) (by omega) (by omega) (Or.inl rfl)) (by omega) hj2 ⟨bn2.1, bn2.2.2⟩ (by omega)
  rw [show j2 + (w - j2 + 1) - 1 = w by omega] at D
  have hR := A.trans (B.trans (C.trans D))
  obtain ⟨-, f1, -, -⟩ := ms_fl0 kM (fi := v) (la := w) hv h1 h2 a1 a2 b1 b2
  have st := ms_run (S := L) (O := R) (fi := v) (la := w) (a := 0) (b := i1) (by omega) h1.1 f1
  have st0 := ms_0 (S := L) (O := R) (fi := v) (la := w)
  obtain ⟨x', T', t', fin, sf, hf⟩ := rf_548_0 d8 h8 (v := v) (p := p) ⟨hv.1, by omega⟩ hj bz ez g8z
  have rf := rf_322_0 d8 h8 (fi := v) (la := w) hv h1 h2 a1 a2 b1 b2 hR fin 4000 i1 (Int.le_refl _) (by have := (ms_fl0 kM (fi := v) (la := w) hv h1 h2 a1 a2 b1 b2).1; omega) (by omega)
  rw [st.1, st.2.1, st.2.2.1, st.2.2.2.1, st.2.2.2.2, st0.1, st0.2.1, st0.2.2.1, st0.2.2.2.1, st0.2.2.2.2] at rf
  refine ⟨x', T', t', ?_, S.tr sf, hf⟩
  unfold pL_refers_j235
  exact obind (q_v0 d.b0 ⟨by omega, hv.2.2⟩ hj2) (obind E6 (obind E7 (obind (q_v1 d7.b0 ⟨by omega, hv.2.2⟩ hj2) (obind E8 (obind (tg_b0 d8 ⟨hv.1, by omega⟩ h1 a1 a2).1 (obind (tg_b0 d8 ⟨by omega, hv.2.2⟩ h2 b1 b2).1 ((if_pos rfl).trans rf)))))))
theorem T_refers0 (d : dX x c0 l0 o0 n0 c1 l1 o1 n1 L R g k w0 w1 ph h) (ht : tX x T t) (i3 i4 : Int32) : ∃ (x' : Sg) (T' : Int → Int) (t' : Int), pL_refers x (I 0) i3 i4 = some (I 1, x') ∧ sx x x' ∧ tX x' T' t' := by
  have kB := d.2.2.1
  have kM := d.2.2.2.2.1
  have hg := kM.1
  have hN := kB.1
  obtain ⟨x1, E1, h1, s1⟩ := T_clear ht
  have e2b : (2 : Int32) + I 0 = I 2 := by decide
  unfold pL_refers
  rw [e2b]
  by_cases z : n0 = 0
  · obtain ⟨x2, T2, E2, h2, s2, k2, y2⟩ := T_type h1 (y := 49) (by omega) (by omega)
    have h2' : tX x2 T2 1 := h2
    have d1 := d.sx s1
    have d2 := d.sx (s1.tr s2)
    have kB0 : okB 0 c0 l0 o0 := by rw [← z]; exact kB
    have f1 : ok6 (pX6_read (cz T) (I 0) (cz c0) (I n0)) 0 := rd_0 kB
    have g2 : dg T2 0 1 1 := Or.inl ⟨by omega, rfl, by rw [k2]; rfl⟩
    have f2 : ok6 (pX6_read (cz T2) (I 1) (cz c0) (I n0)) 0 := by
      rw [z]
      exact rd_1 (by omega) h2'.2.2 kB0 (g2.nu (n := 1) (by omega) (by omega) (by omega) (Or.inl rfl)) (by omega) (by omega) (by omega)
    have R1 : sRefer x1 (I 0) (I 0) = some (I (-100)) := q_refF0 d1 h1 (F := 0) (y := 0) (by omega) (by omega) f1
    have R2 : sRefer x2 (I 0) (I 0) = some (I (-100)) := q_refF0 d2 h2' (F := 0) (y := 0) (by omega) (by omega) f2
    refine ⟨x2, T2, 1, obind (q_c2 d) (obind E1 ((if_pos (by rw [z]; rfl)).trans (obind R1 ((if_pos rfl).trans ?_)))), s1.tr s2, h2'⟩
    unfold pL_refers_j35
    exact obind E2 ((if_neg (by decide)).trans (obind R2 ((if_pos rfl).trans (obind q_ref2 ((if_pos rfl).trans (obind (q_refW0 d2) (if_pos rfl)))))))
  · obtain ⟨v, hv, EL1⟩ := T_low (n := n0) (by omega) i3
    obtain ⟨s, hs, EL2⟩ := T_low (n := n0 - v) (by omega) i4
    obtain ⟨w, hw⟩ : ∃ w, w = v + s := ⟨_, rfl⟩
    obtain ⟨j, hj, bz, ez, b1, b2, b3⟩ := ch_of kB (v := v) hv
    obtain ⟨j2, hj2, bz2, ez2, c1', c2', c3'⟩ := ch_of kB (v := w) (by omega)
    have hS : ∀ i, 0 ≤ i → i < g → 0 ≤ L i := fun i a z => (okM_S (b := 0) kM i a z).1
    obtain ⟨i1, hi1, u1, u2⟩ := ex_grp (F := L) hS (by omega) kM.2.2.1 hv
    obtain ⟨i2, hi2, u3, u4⟩ := ex_grp (F := L) (v := w) hS (by omega) kM.2.2.1 (by omega)
    obtain ⟨x2, T2, p, E2, h2, s2, g2, y2⟩ := T_digits h1 (v := c0 v) (by omega) (by omega)
    have gb2 := g2.bd
    obtain ⟨x3, T3, E3, h3, s3, k3, y3⟩ := T_type h2 (y := 58) (by omega) (by omega)
    have g3 := g2.lo y3
    have d1 := d.sx s1
    have S3 := s1.tr (s2.tr s3)
    have d3 := d.sx S3
    have A3 := rd_b (T := T3) (n := p + 1) (by omega) h3.2.2 kB (g3.nu (n := p + 1) (by omega) (by omega) (by omega) (Or.inr (by omega))) ⟨by omega, ez⟩
    have f3 : ok6 (pX6_read (cz T3) (I (p + 1)) (cz c0) (I n0)) (p + 1) := by
      rw [A3]
      exact rd_bF (by omega) h3.2.2 kB (by omega) k3 (by rw [at0_out (by omega)]; omega) bz
    have R3 : sRefer x3 (I 0) (I 0) = some (I (-100 - (p + 1))) := q_refF0 d3 h3 (F := p + 1) (y := 0) (by omega) (by omega) f3
    obtain ⟨x4, T4, p4, E4, h4, s4, g4, y4⟩ := T_digits h3 (v := v - j + 1) (by omega) (by omega)
    have gb4 := g4.bd
    have d4 := d.sx (S3.tr s4)
    have g4z := g3.lo (y4.mo (by omega))
    have k4 : T4 p = 58 := (y4 p (by omega)).trans k3
    have A4 := rd_b (T := T4) (n := p4) (by omega) h4.2.2 kB (g4z.nu (n := p4) (by omega) (by omega) (by omega) (Or.inr (by omega))) ⟨by omega, ez⟩
    have B4 := rd_c (T := T4) (n := p4) (p := p) (p2 := p4) (v := v - j + 1) (z := c0 v) (by omega) h4.2.2 kB (by omega) k4 (g4.nu (n := p4) (by omega) (by omega) (by omega) (Or.inl rfl)) hj bz ⟨b1, b3⟩
    rw [show j + (v - j + 1) - 1 = v by omega] at B4
    have hR4 := A4.trans (B4.trans (rd_c1 (by omega)))
    have R4a : sRefer x4 (I 0) (I 0) = some (I v) := q_ref0 d4 h4 (fi := v) (la := v) (y := 0) (by omega) (by omega) hR4
    have R4b : sRefer x4 (I 0) (I 1) = some (I v) := q_ref0 d4 h4 (fi := v) (la := v) (y := 1) (by omega) (by omega) hR4
    have R4c : sRefer x4 (I 0) (I 4) = some (I (m2 L R v v g)) := q_ref0 d4 h4 (fi := v) (la := v) (y := 4) (by omega) (by omega) hR4
    rw [rf_one0 kM hv hi1 u1 u2] at R4c
    obtain ⟨x5, T5, E5, h5, s5, k5b, y5⟩ := T_type h4 (y := 45) (by omega) (by omega)
    have d5 := d.sx (S3.tr (s4.tr s5))
    have g5z := g4z.lo (y5.mo (by omega))
    have k5 : T5 p = 58 := (y5 p (by omega)).trans k4
    have g5n := g4.lo y5
    have A5 := rd_b (T := T5) (n := p4 + 1) (by omega) h5.2.2 kB (g5z.nu (n := p4 + 1) (by omega) (by omega) (by omega) (Or.inr (by omega))) ⟨by omega, ez⟩
    have B5 := rd_c (T := T5) (n := p4 + 1) (p := p) (p2 := p4) (v := v - j + 1) (z := c0 v) (by omega) h5.2.2 kB (by omega) k5 (g5n.nu (n := p4 + 1) (by omega) (by omega) (by omega) (Or.inr (by omega))) hj bz ⟨b1, b3⟩
    have C5 := rd_c2 (T := T5) (c := c0) (N := n0) (n := p4 + 1) (p := p4) (x := c0 v) (first := j + (v - j + 1) - 1) (a := I (v - j + 1)) (b := I (p + 1)) (by omega) h5.2.2 (by omega) k5b
    have f5 : ok6 (pX6_read (cz T5) (I (p4 + 1)) (cz c0) (I n0)) (p4 + 1) := by
      rw [A5, B5, C5]
      exact rd_dN (by omega) h5.2.2 kB (by omega) (by omega)
    have R5 : sRefer x5 (I 0) (I 0) = some (I (-100 - (p4 + 1))) := q_refF0 d5 h5 (F := p4 + 1) (y := 0) (by omega) (by omega) f5
    obtain ⟨x', T', t', fin, sf, hf⟩ := rf_235_0 d5 h5 (v := v) (w := w) (j := j) (j2 := j2) (p := p) (nv := v - j + 1) (i1 := i1) (i2 := i2) (p4 := p4) (by omega) hj bz ez rfl ⟨b1, b2, b3⟩ hj2 bz2 ez2 ⟨c1', c2', c3'⟩ hi1 hi2 u1 u2 u3 u4 rfl g5z k5 g5n k5b
    refine ⟨x', T', t', ?_, (S3.tr (s4.tr s5)).tr sf, hf⟩
    have e3 : I (-100 - (p + 1)) = (-100 : Int32) - I (p + 1) := by
      rw [show (-100 : Int32) = I (-100) from rfl, I_sub]
    have e5 : I (-100 - (p4 + 1)) = (-101 : Int32) - I p4 := by
      rw [show (-101 : Int32) = I (-101) from rfl, I_sub, show -101 - p4 = -100 - (p4 + 1) by omega]
    have EL2' : pL_low i4 (I n0 - I v) = some (I s) := by
      rw [I_sub]
      exact EL2
    have evs : I v + I s = I w := by
      rw [I_add, hw]
    have j150 : pL_refers_j150 x3 (I 0) (I v) (I v + I s) (I (p + 1)) (1 : Int32) = some (I 1, x') := by
      rw [evs]
      unfold pL_refers_j150
      exact obind (q_v1 d3.b0 hv hj) (obind E4 ((if_neg (by decide)).trans (obind R4a ((if_pos rfl).trans (obind R4b ((if_pos rfl).trans (obind R4c ((if_pos rfl).trans (obind E5 (obind R5 ((if_pos e5).trans fin)))))))))))
    exact obind (q_c2 d) (obind E1 ((if_neg (by rw [I_l0, I_eq (by omega)]; exact z)).trans (obind EL1 (obind EL2' (obind (q_v0 d1.b0 hv hj) (obind E2 (obind E3 (obind R3 ((if_pos e3).trans j150)))))))))
end RT0
section RT1
variable {x : Sg} {c0 l0 o0 : Int → Int} {n0 : Int} {c1 l1 o1 : Int → Int} {n1 : Int} {L R : Int → Int} {g k w0 w1 ph h : Int} {T : Int → Int} {t : Int}
theorem rf_548_1 (d : dX x c0 l0 o0 n0 c1 l1 o1 n1 L R g k w0 w1 ph h) (ht : tX x T t) {v j p : Int} {T0 : Int → Int} (hv : 0 ≤ v ∧ v < n1) (hj : isF c1 (c1 v) n1 j) (bz : 1 ≤ c1 v ∧ c1 v ≤ 10) (ez : c1 v ≤ at0 c1 n1 (n1 - 1)) (g0 : dg T0 0 p (c1 v)) : ∃ (x' : Sg) (T' : Int → Int) (t' : Int), pL_refers_j548 x (I 1) (I v) (I (p + 1)) (I 1) (I 1) = some (I 1, x') ∧ sx x x' ∧ tX x' T' t' := by
  have kB := d.2.2.2.1
  obtain ⟨x9, E9, h9, s9⟩ := T_clear ht
  obtain ⟨x10, T10, q, E10, h10, s10, g10, y10⟩ := T_digits h9 (v := c1 v) (by omega) (by omega)
  obtain rfl := g0.fn g10
  have gb := g10.bd
  obtain ⟨x11, T11, E11, h11, s11, k11, y11⟩ := T_type h10 (y := 58) (by omega) (by omega)
  obtain ⟨x12, T12, E12, h12, s12, k12, y12⟩ := T_type h11 (y := 48) (by omega) (by omega)
  have S := s9.tr (s10.tr (s11.tr s12))
  have d9 := d.sx s9
  have d12 := d.sx S
  have g12 : dg T12 0 p (c1 v) := (g10.lo y11).lo (y12.mo (by omega))
  have k58 : T12 p = 58 := (y12 p (by omega)).trans k11
  have a := rd_b (T := T12) (n := p + 1 + 1) (by omega) h12.2.2 kB (g12.nu (n := p + 1 + 1) (by omega) (by omega) (by omega) (Or.inr (by omega))) ⟨by omega, ez⟩
  have f : ok6 (pX6_read (cz T12) (I (p + 1 + 1)) (cz c1) (I n1)) (p + 1) := by
    rw [a]
    exact rd_bF (by omega) h12.2.2 kB (by omega) k58 (by rw [at0_in (by omega)]; omega) (by omega)
  have R12 : sRefer x12 (I 1) (I 0) = some (I (-100 - (p + 1))) := q_refF1 d12 h12 (F := p + 1) (y := 0) (by omega) (by omega) f
  refine ⟨x12, T12, _, ?_, S, h12⟩
  have e : I (-100 - (p + 1)) = (-100 : Int32) - I (p + 1) := by
    rw [show (-100 : Int32) = I (-100) from rfl, I_sub]
  unfold pL_refers_j548
  refine obind E9 (obind (q_v0 d9.b1 hv hj) (obind E10 (obind E11 (obind E12 (obind R12 ((if_pos e).trans ?_))))))
  unfold pL_refers_j601
  exact (if_neg (by decide)).trans ((if_neg (by decide)).trans ((if_neg (by decide)).trans (obind (q_refW1 d12) (if_pos rfl))))
theorem rf_235_1 (d : dX x c0 l0 o0 n0 c1 l1 o1 n1 L R g k w0 w1 ph h) (ht : tX x T t) {v w j j2 p nv i1 i2 : Int} (hv : 0 ≤ v ∧ v ≤ w ∧ w < n1) (hj : isF c1 (c1 v) n1 j) (bz : 1 ≤ c1 v ∧ c1 v ≤ 10) (ez : c1 v ≤ at0 c1 n1 (n1 - 1)) (env : nv = v - j + 1) (bn : 1 ≤ nv ∧ nv ≤ 60 ∧ nv ≤ cnt c1 (c1 v) n1) (hj2 : isF c1 (c1 w) n1 j2) (bz2 : 1 ≤ c1 w ∧ c1 w ≤ 10) (ez2 : c1 w ≤ at0 c1 n1 (n1 - 1)) (bn2 : 1 ≤ w - j2 + 1 ∧ w - j2 + 1 ≤ 60 ∧ w - j2 + 1 ≤ cnt c1 (c1 w) n1) (h1 : 0 ≤ i1 ∧ i1 < g) (h2 : 0 ≤ i2 ∧ i2 < g) (a1 : Sm R i1 ≤ v) (a2 : v < Sm R (i1 + 1)) (b1 : Sm R i2 ≤ w) (b2 : w < Sm R (i2 + 1)) {p4 : Int} (htl : t = p4 + 1) (g5z : dg T 0 p (c1 v)) (k5 : T p = 58) (g5n : dg T (p + 1) p4 nv) (k5b : T p4 = 45) : ∃ (x' : Sg) (T' : Int → Int) (t' : Int), pL_refers_j235 x (I 1) (I v) (I w) (I (p + 1)) (I 1) = some (I 1, x') ∧ sx x x' ∧ tX x' T' t' := by
  subst htl
  have kB := d.2.2.2.1
  have kM := d.2.2.2.2.1
  have hg := kM.1
  have gz := g5z.bd
  have gn := g5n.bd
  have hc : c1 v ≤ c1 w := okB_mono kB hv.1 hv.2.1 hv.2.2
  obtain ⟨x6, T6, p6, E6, h6, s6, g6, y6⟩ := T_digits ht (v := c1 w) (by omega) (by omega)
  have gb6 := g6.bd
  obtain ⟨x7, T7, E7, h7, s7, k7, y7⟩ := T_type h6 (y := 58) (by omega) (by omega)
  obtain ⟨x8, T8, p8, E8, h8, s8, g8, y8⟩ := T_digits h7 (v := w - j2 + 1) (by omega) (by omega)
  have gb8 := g8.bd
  have S := s6.tr (s7.tr s8)
  have d8 := d.sx S
  have d7 := d.sx (s6.tr s7)
  have Y : tY2 T T8 (p4 + 1) := fun i hi => by rw [y8 i (by omega), y7 i (by omega), y6 i hi]
  have g8z := g5z.lo (Y.mo (by omega))
  have k8 : T8 p = 58 := (Y p (by omega)).trans k5
  have g8n := g5n.lo (Y.mo (by omega))
  have k8b : T8 p4 = 45 := (Y p4 (by omega)).trans k5b
  have g8w : dg T8 (p4 + 1) p6 (c1 w) := (g6.lo y7).lo (y8.mo (by omega))
  have k8c : T8 p6 = 58 := (y8 p6 (by omega)).trans k7
  have A := rd_b (T := T8) (n := p8) (by omega) h8.2.2 kB (g8z.nu (n := p8) (by omega) (by omega) (by omega) (Or.inr (by omega))) ⟨by omega, ez⟩
  have B := rd_c (T := T8) (n := p8) (p := p) (p2 := p4) (v := nv) (z := c1 v) (by omega) h8.2.2 kB (by omega) k8 (g8n.nu (n := p8) (by omega) (by omega) (by omega) (Or.inr (by omega))) hj bz ⟨bn.1, bn.2.2⟩
  rw [show j + nv - 1 = v by omega] at B
  have C := rd_c2 (T := T8) (c := c1) (N := n1) (n := p8) (p := p4) (x := c1 v) (first := v) (a := I nv) (b := I (p + 1)) (by omega) h8.2.2 (by omega) k8b
  have D := rd_d (T := T8) (n := p8) (p := p4 + 1) (q := p6) (x := c1 v) (first := v) (z2 := c1 w) (v2 := w - j2 + 1) (j2 := j2) (by omega) h8.2.2 kB (by omega) (g8w.nu (n := p8) (by omega) (by omega) (by omega) (Or.inr (by omega))) k8c (g8.nu (n := p8) (by omega) (by omega) (by omega) (Or.inl rfl)) (by omega) hj2 ⟨bn2.1, bn2.2.2⟩ (by omega)
  rw [show j2 + (w - j2 + 1) - 1 = w by omega] at D
  have hR := A.trans (B.trans (C.trans D))
  obtain ⟨-, f1, -, -⟩ := ms_fl1 kM (fi := v) (la := w) hv h1 h2 a1 a2 b1 b2
  have st := ms_run (S := R) (O := L) (fi := v) (la := w) (a := 0) (b := i1) (by omega) h1.1 f1
  have st0 := ms_0 (S := R) (O := L) (fi := v) (la := w)
  obtain ⟨x', T', t', fin, sf, hf⟩ := rf_548_1 d8 h8 (v := v) (p := p) ⟨hv.1, by omega⟩ hj bz ez g8z
  have rf := rf_322_1 d8 h8 (fi := v) (la := w) hv h1 h2 a1 a2 b1 b2 hR fin 4000 i1 (Int.le_refl _) (by have := (ms_fl1 kM (fi := v) (la := w) hv h1 h2 a1 a2 b1 b2).1; omega) (by omega)
  rw [st.1, st.2.1, st.2.2.1, st.2.2.2.1, st.2.2.2.2, st0.1, st0.2.1, st0.2.2.1, st0.2.2.2.1, st0.2.2.2.2] at rf
  refine ⟨x', T', t', ?_, S.tr sf, hf⟩
  unfold pL_refers_j235
  exact obind (q_v0 d.b1 ⟨by omega, hv.2.2⟩ hj2) (obind E6 (obind E7 (obind (q_v1 d7.b1 ⟨by omega, hv.2.2⟩ hj2) (obind E8 (obind (tg_b1 d8 ⟨hv.1, by omega⟩ h1 a1 a2).1 (obind (tg_b1 d8 ⟨by omega, hv.2.2⟩ h2 b1 b2).1 ((if_neg (by decide)).trans rf)))))))
theorem T_refers1 (d : dX x c0 l0 o0 n0 c1 l1 o1 n1 L R g k w0 w1 ph h) (ht : tX x T t) (i3 i4 : Int32) : ∃ (x' : Sg) (T' : Int → Int) (t' : Int), pL_refers x (I 1) i3 i4 = some (I 1, x') ∧ sx x x' ∧ tX x' T' t' := by
  have kB := d.2.2.2.1
  have kM := d.2.2.2.2.1
  have hg := kM.1
  have hN := kB.1
  obtain ⟨x1, E1, h1, s1⟩ := T_clear ht
  have e2b : (2 : Int32) + I 1 = I 3 := by decide
  unfold pL_refers
  rw [e2b]
  by_cases z : n1 = 0
  · obtain ⟨x2, T2, E2, h2, s2, k2, y2⟩ := T_type h1 (y := 49) (by omega) (by omega)
    have h2' : tX x2 T2 1 := h2
    have d1 := d.sx s1
    have d2 := d.sx (s1.tr s2)
    have kB0 : okB 0 c1 l1 o1 := by rw [← z]; exact kB
    have f1 : ok6 (pX6_read (cz T) (I 0) (cz c1) (I n1)) 0 := rd_0 kB
    have g2 : dg T2 0 1 1 := Or.inl ⟨by omega, rfl, by rw [k2]; rfl⟩
    have f2 : ok6 (pX6_read (cz T2) (I 1) (cz c1) (I n1)) 0 := by
      rw [z]
      exact rd_1 (by omega) h2'.2.2 kB0 (g2.nu (n := 1) (by omega) (by omega) (by omega) (Or.inl rfl)) (by omega) (by omega) (by omega)
    have R1 : sRefer x1 (I 1) (I 0) = some (I (-100)) := q_refF1 d1 h1 (F := 0) (y := 0) (by omega) (by omega) f1
    have R2 : sRefer x2 (I 1) (I 0) = some (I (-100)) := q_refF1 d2 h2' (F := 0) (y := 0) (by omega) (by omega) f2
    refine ⟨x2, T2, 1, obind (q_c3 d) (obind E1 ((if_pos (by rw [z]; rfl)).trans (obind R1 ((if_pos rfl).trans ?_)))), s1.tr s2, h2'⟩
    unfold pL_refers_j35
    exact obind E2 ((if_neg (by decide)).trans (obind R2 ((if_pos rfl).trans (obind q_ref2 ((if_pos rfl).trans (obind (q_refW1 d2) (if_pos rfl)))))))
  · obtain ⟨v, hv, EL1⟩ := T_low (n := n1) (by omega) i3
    obtain ⟨s, hs, EL2⟩ := T_low (n := n1 - v) (by omega) i4
    obtain ⟨w, hw⟩ : ∃ w, w = v + s := ⟨_, rfl⟩
    obtain ⟨j, hj, bz, ez, b1, b2, b3⟩ := ch_of kB (v := v) hv
    obtain ⟨j2, hj2, bz2, ez2, c1', c2', c3'⟩ := ch_of kB (v := w) (by omega)
    have hS : ∀ i, 0 ≤ i → i < g → 0 ≤ R i := fun i a z => (okM_S (b := 1) kM i a z).1
    obtain ⟨i1, hi1, u1, u2⟩ := ex_grp (F := R) hS (by omega) kM.2.2.2 hv
    obtain ⟨i2, hi2, u3, u4⟩ := ex_grp (F := R) (v := w) hS (by omega) kM.2.2.2 (by omega)
    obtain ⟨x2, T2, p, E2, h2, s2, g2, y2⟩ := T_digits h1 (v := c1 v) (by omega) (by omega)
    have gb2 := g2.bd
    obtain ⟨x3, T3, E3, h3, s3, k3, y3⟩ := T_type h2 (y := 58) (by omega) (by omega)
    have g3 := g2.lo y3
    have d1 := d.sx s1
    have S3 := s1.tr (s2.tr s3)
    have d3 := d.sx S3
    have A3 := rd_b (T := T3) (n := p + 1) (by omega) h3.2.2 kB (g3.nu (n := p + 1) (by omega) (by omega) (by omega) (Or.inr (by omega))) ⟨by omega, ez⟩
    have f3 : ok6 (pX6_read (cz T3) (I (p + 1)) (cz c1) (I n1)) (p + 1) := by
      rw [A3]
      exact rd_bF (by omega) h3.2.2 kB (by omega) k3 (by rw [at0_out (by omega)]; omega) bz
    have R3 : sRefer x3 (I 1) (I 0) = some (I (-100 - (p + 1))) := q_refF1 d3 h3 (F := p + 1) (y := 0) (by omega) (by omega) f3
    obtain ⟨x4, T4, p4, E4, h4, s4, g4, y4⟩ := T_digits h3 (v := v - j + 1) (by omega) (by omega)
    have gb4 := g4.bd
    have d4 := d.sx (S3.tr s4)
    have g4z := g3.lo (y4.mo (by omega))
    have k4 : T4 p = 58 := (y4 p (by omega)).trans k3
    have A4 := rd_b (T := T4) (n := p4) (by omega) h4.2.2 kB (g4z.nu (n := p4) (by omega) (by omega) (by omega) (Or.inr (by omega))) ⟨by omega, ez⟩
    have B4 := rd_c (T := T4) (n := p4) (p := p) (p2 := p4) (v := v - j + 1) (z := c1 v) (by omega) h4.2.2 kB (by omega) k4 (g4.nu (n := p4) (by omega) (by omega) (by omega) (Or.inl rfl)) hj bz ⟨b1, b3⟩
    rw [show j + (v - j + 1) - 1 = v by omega] at B4
    have hR4 := A4.trans (B4.trans (rd_c1 (by omega)))
    have R4a : sRefer x4 (I 1) (I 0) = some (I v) := q_ref1 d4 h4 (fi := v) (la := v) (y := 0) (by omega) (by omega) hR4
    have R4b : sRefer x4 (I 1) (I 1) = some (I v) := q_ref1 d4 h4 (fi := v) (la := v) (y := 1) (by omega) (by omega) hR4
    have R4c : sRefer x4 (I 1) (I 4) = some (I (m2 R L v v g)) := q_ref1 d4 h4 (fi := v) (la := v) (y := 4) (by omega) (by omega) hR4
    rw [rf_one1 kM hv hi1 u1 u2] at R4c
    obtain ⟨x5, T5, E5, h5, s5, k5b, y5⟩ := T_type h4 (y := 45) (by omega) (by omega)
    have d5 := d.sx (S3.tr (s4.tr s5))
    have g5z := g4z.lo (y5.mo (by omega))
    have k5 : T5 p = 58 := (y5 p (by omega)).trans k4
    have g5n := g4.lo y5
    have A5 := rd_b (T := T5) (n := p4 + 1) (by omega) h5.2.2 kB (g5z.nu (n := p4 + 1) (by omega) (by omega) (by omega) (Or.inr (by omega))) ⟨by omega, ez⟩
    have B5 := rd_c (T := T5) (n := p4 + 1) (p := p) (p2 := p4) (v := v - j + 1) (z := c1 v) (by omega) h5.2.2 kB (by omega) k5 (g5n.nu (n := p4 + 1) (by omega) (by omega) (by omega) (Or.inr (by omega))) hj bz ⟨b1, b3⟩
    have C5 := rd_c2 (T := T5) (c := c1) (N := n1) (n := p4 + 1) (p := p4) (x := c1 v) (first := j + (v - j + 1) - 1) (a := I (v - j + 1)) (b := I (p + 1)) (by omega) h5.2.2 (by omega) k5b
    have f5 : ok6 (pX6_read (cz T5) (I (p4 + 1)) (cz c1) (I n1)) (p4 + 1) := by
      rw [A5, B5, C5]
      exact rd_dN (by omega) h5.2.2 kB (by omega) (by omega)
    have R5 : sRefer x5 (I 1) (I 0) = some (I (-100 - (p4 + 1))) := q_refF1 d5 h5 (F := p4 + 1) (y := 0) (by omega) (by omega) f5
    obtain ⟨x', T', t', fin, sf, hf⟩ := rf_235_1 d5 h5 (v := v) (w := w) (j := j) (j2 := j2) (p := p) (nv := v - j + 1) (i1 := i1) (i2 := i2) (p4 := p4) (by omega) hj bz ez rfl ⟨b1, b2, b3⟩ hj2 bz2 ez2 ⟨c1', c2', c3'⟩ hi1 hi2 u1 u2 u3 u4 rfl g5z k5 g5n k5b
    refine ⟨x', T', t', ?_, (S3.tr (s4.tr s5)).tr sf, hf⟩
    have e3 : I (-100 - (p + 1)) = (-100 : Int32) - I (p + 1) := by
      rw [show (-100 : Int32) = I (-100) from rfl, I_sub]
    have e5 : I (-100 - (p4 + 1)) = (-101 : Int32) - I p4 := by
      rw [show (-101 : Int32) = I (-101) from rfl, I_sub, show -101 - p4 = -100 - (p4 + 1) by omega]
    have EL2' : pL_low i4 (I n1 - I v) = some (I s) := by
      rw [I_sub]
      exact EL2
    have evs : I v + I s = I w := by
      rw [I_add, hw]
    have j150 : pL_refers_j150 x3 (I 1) (I v) (I v + I s) (I (p + 1)) (1 : Int32) = some (I 1, x') := by
      rw [evs]
      unfold pL_refers_j150
      exact obind (q_v1 d3.b1 hv hj) (obind E4 ((if_neg (by decide)).trans (obind R4a ((if_pos rfl).trans (obind R4b ((if_pos rfl).trans (obind R4c ((if_pos rfl).trans (obind E5 (obind R5 ((if_pos e5).trans fin)))))))))))
    exact obind (q_c3 d) (obind E1 ((if_neg (by rw [I_l0, I_eq (by omega)]; exact z)).trans (obind EL1 (obind EL2' (obind (q_v0 d1.b1 hv hj) (obind E2 (obind E3 (obind R3 ((if_pos e3).trans j150)))))))))
end RT1
