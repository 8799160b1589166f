-- the law's exchanges, splits, joins, parts, errors (printed by wip/p24/fun/mk76.py)
def lX (x : Sg) (w0 w1 ph h : Int) : Prop := (∃ (c0 l0 o0 : Int → Int) (n0 : Int) (c1 l1 o1 : Int → Int) (n1 : Int) (L R : Int → Int) (g k : Int), dX x c0 l0 o0 n0 c1 l1 o1 n1 L R g k w0 w1 ph h) ∧ ∃ (T : Int → Int) (t : Int), tX x T t
theorem tX.of {x x' : Sg} {T : Int → Int} {t : Int} (h : tX x T t) (e : x'.2.2 = x.2.2) : tX x' T t := ⟨by rw [e]; exact h.1, h.2⟩
theorem lX.mk {x x' : Sg} {c0 l0 o0 : Int → Int} {n0 : Int} {c1 l1 o1 : Int → Int} {n1 : Int} {L R : Int → Int} {g k w0 w1 ph h t : Int} {T : Int → Int} (d : dX x' c0 l0 o0 n0 c1 l1 o1 n1 L R g k w0 w1 ph h) (ht : tX x T t) (e : x'.2.2 = x.2.2) : lX x' w0 w1 ph h := ⟨⟨c0, l0, o0, n0, c1, l1, o1, n1, L, R, g, k, d⟩, T, t, ht.of e⟩
section TA
variable {x : Sg} {c0 l0 o0 : Int → Int} {n0 : Int} {c1 l1 o1 : Int → Int} {n1 : Int} {L R : Int → Int} {g k w0 w1 ph h : Int} {T : Int → Int} {t : Int}
theorem tt_39 (d : dX x c0 l0 o0 n0 c1 l1 o1 n1 L R g k w0 w1 ph h) {s2 s1 : Int} (e1 : ksm L R 1 g = s2) (e2 : ksm L R 2 g = s1) : ∀ (mm : Nat) (s i : Int), 0 ≤ i → i ≤ g → g - i < mm → s = alk L R i → pL_turns_L39 mm x (I n1) (I n0) (I s1) (I s2) (I (alk L R g)) (I s) (I i) = some (I 1, x) := by
  have hg := d.2.2.2.2.1.1
  intro mm
  induction mm with
  | zero => intro s i a1 a2 a3; omega
  | succ mm ih =>
    intro s i a1 a2 a3 hs
    show pL_turns_bL39 _ _ _ _ _ _ _ _ _ = _
    unfold pL_turns_bL39
    refine obind (q_c4 d) ?_
    by_cases q : i = g
    · rw [if_pos (by rw [I_le (by omega)]; omega), if_pos (by rw [hs, q])]
      exact obind (q_c2 d) ((if_pos rfl).trans (obind (q_c3 d) ((if_pos rfl).trans (obind (q_c6 d) ((if_pos (by rw [e1])).trans (obind (q_c7 d) (if_pos (by rw [e2]))))))))
    · rw [if_neg (by rw [I_le (by omega)]; omega)]
      have hi : 0 ≤ i ∧ i < g := by omega
      have hm := d.2.2.2.2.1.2.1 i hi.1 hi.2
      have e : alk L R (i + 1) = alk L R i + (if L i = R i then 1 else 0) := Sm_s a1
      refine obind (q_g2 d hi) (obind (q_g4 d hi) ?_)
      unfold pL_turns_j73
      by_cases z : L i = R i
      · rw [if_pos z] at e
        rw [if_pos (by rw [z]), I_l1, I_add, I_add]
        exact ih _ _ (by omega) (by omega) (by omega) (by omega)
      · rw [if_neg z] at e
        rw [if_neg (by rw [I_eq (by omega)]; exact z), I_l1, I_l0, I_add, I_add]
        exact ih _ _ (by omega) (by omega) (by omega) (by omega)
theorem T_turns (d : dX x c0 l0 o0 n0 c1 l1 o1 n1 L R g k w0 w1 ph h) (ht : tX x T t) : ∃ x', pL_turns x = some (I 1, x') ∧ lX x' w0 w1 ph h := by
  obtain ⟨x', E, d', -, e⟩ := s_exchange d
  have kM := d.2.2.2.2.1
  have hg := kM.1
  refine ⟨x', ?_, lX.mk d' ht e⟩
  unfold pL_turns
  refine obind (q_c2 d) (obind (q_c3 d) (obind (q_c6 d) (obind (q_c7 d) (obind E ?_))))
  have f1 : ksm R L 1 g = ksm L R 2 g := Sm_congr hg.1 (fun i a b => by
    have hm := kM.2.1 i a b
    show (if knd (R i) (L i) = 1 then 1 else 0) = if knd (L i) (R i) = 2 then 1 else 0
    unfold knd
    repeat' split
    all_goals first | rfl | (exfalso; omega))
  have f2 : ksm R L 2 g = ksm L R 1 g := Sm_congr hg.1 (fun i a b => by
    have hm := kM.2.1 i a b
    show (if knd (R i) (L i) = 2 then 1 else 0) = if knd (L i) (R i) = 1 then 1 else 0
    unfold knd
    repeat' split
    all_goals first | rfl | (exfalso; omega))
  exact tt_39 d' f1 f2 4000 0 0 (by omega) (by omega) (by omega) rfl
theorem T_splits0 (d : dX x c0 l0 o0 n0 c1 l1 o1 n1 L R g k w0 w1 ph h) (ht : tX x T t) {v u : Int} (q : 0 ≤ v ∧ v < n0) (qu : 1 ≤ u ∧ u ≤ 250) : ∃ x', pL_splits x (I 0) (I v) (I u) = some (I 1, x') ∧ lX x' w0 w1 ph h := by
  have kM := d.2.2.2.2.1
  have hn := d.b0.1.1
  have kv := d.b0.1.2 v q.1 q.2
  have hF : ∀ i, 0 ≤ i → i < g → 0 ≤ sel 0 L R i := fun i p z => (okM_S (b := 0) kM i p z).1
  obtain ⟨i, i0, i1, i2⟩ := ex_grp (F := sel 0 L R) (g := g) (v := v) (n := n0) hF kM.1.1 d.2.2.2.2.1.2.2.1 q
  obtain ⟨j, hj⟩ := ex_F (P := c0) (p := c0 v) (g := n0) ⟨v, q.1, q.2, rfl⟩
  have hsz := okM_S (b := 0) kM i i0.1 i0.2
  have head : ∀ K, pL_splits x (I 0) (I v) (I u) = K ↔ (if I u < I (l0 v) then if I n0 = (60 : Int32) then pL_splits_j72 x (I 0) (I v) (I u) (I (l0 v)) (I (o0 v)) (I i) (I (c0 v)) (-3 : Int32) else pL_splits_j72 x (I 0) (I v) (I u) (I (l0 v)) (I (o0 v)) (I i) (I (c0 v)) (I n0 + (1 : Int32)) else pL_splits_j72 x (I 0) (I v) (I u) (I (l0 v)) (I (o0 v)) (I i) (I (c0 v)) (-4 : Int32)) = K := by
    intro K
    have e : pL_splits x (I 0) (I v) (I u) = (if I u < I (l0 v) then if I n0 = (60 : Int32) then pL_splits_j72 x (I 0) (I v) (I u) (I (l0 v)) (I (o0 v)) (I i) (I (c0 v)) (-3 : Int32) else pL_splits_j72 x (I 0) (I v) (I u) (I (l0 v)) (I (o0 v)) (I i) (I (c0 v)) (I n0 + (1 : Int32)) else pL_splits_j72 x (I 0) (I v) (I u) (I (l0 v)) (I (o0 v)) (I i) (I (c0 v)) (-4 : Int32)) := by
      unfold pL_splits
      exact obind (q_c2 d) (obind (q_v2 d.b0 q hj) (obind (q_v3 d.b0 q hj) (obind (q_b0 d (b := 0) (Or.inl ⟨rfl, q⟩) i0 i1 i2) (obind (q_v0 d.b0 q hj) rfl))))
    rw [e]
  by_cases z : l0 v ≤ u ∨ n0 = 60
  · have E := s_splitB0 d q (u := u) (by omega) z
    have E2 := sE_split2 d (b := 0) (v := v) (u := 2000) (Or.inl ⟨rfl, q⟩) (by omega) (by omega)
    have E3 := sE_split2 d (b := 0) (v := v) (u := 0) (Or.inl ⟨rfl, q⟩) (by omega) (by omega)
    have go : ∀ r : Int, r = (if l0 v ≤ u then -4 else -3) → pL_splits_j72 x (I 0) (I v) (I u) (I (l0 v)) (I (o0 v)) (I i) (I (c0 v)) (I r) = some (I 1, x) := by
      intro r hr
      unfold pL_splits_j72
      refine obind E ((if_pos (by rw [hr])).trans (obind E2 ((if_pos rfl).trans (obind E3 ((if_pos rfl).trans (if_pos ?_))))))
      rw [I_l0, I_lt (by split at hr <;> omega)]
      split at hr <;> omega
    refine ⟨x, (head _).mpr ?_, lX.mk d ht rfl⟩
    by_cases y : l0 v ≤ u
    · rw [if_neg (by rw [I_lt (by omega)]; omega)]
      exact go (-4) (by rw [if_pos y])
    · rw [if_pos (by rw [I_lt (by omega)]; omega), if_pos (by rw [show n0 = 60 by omega]; rfl)]
      exact go (-3) (by rw [if_neg y])
  · obtain ⟨x', c2, l2, o2, L2, R2, E, d', -, e, hc, hl, ho, hM⟩ := s_split0 d q (u := u) (by omega) (by omega) i0 i1 i2
    refine ⟨x', (head _).mpr ?_, lX.mk d' ht e⟩
    have q0 : 0 ≤ v ∧ v < n0 + 1 := by omega
    have q1 : 0 ≤ v + 1 ∧ v + 1 < n0 + 1 := by omega
    obtain ⟨j2, hj2⟩ := ex_F (P := c2) (p := c2 v) (g := n0 + 1) ⟨v, q0.1, q0.2, rfl⟩
    obtain ⟨j3, hj3⟩ := ex_F (P := c2) (p := c2 (v + 1)) (g := n0 + 1) ⟨v + 1, q1.1, q1.2, rfl⟩
    have E2 := sE_split2 d' (b := 0) (v := v) (u := 2000) (Or.inl ⟨rfl, by omega⟩) (by omega) (by omega)
    have E3 := sE_split2 d' (b := 0) (v := v) (u := 0) (Or.inl ⟨rfl, by omega⟩) (by omega) (by omega)
    have a1 : l2 v = u := by rw [hl v q0.1 q0.2, ins_lo (by omega), up_at rfl]
    have a2 : l2 (v + 1) = l0 v - u := by rw [hl (v + 1) q1.1 q1.2, ins_at rfl]
    have a3 : o2 v = o0 v := by rw [ho v q0.1 q0.2, ins_lo (by omega)]
    have a4 : o2 (v + 1) = 0 := by rw [ho (v + 1) q1.1 q1.2, ins_at rfl]
    have a5 : c2 (v + 1) = c0 v := by rw [hc (v + 1) q1.1 q1.2, ins_at rfl]
    have S1 : Sm L2 i = Sm L i := Sm_congr i0.1 (fun p pa pb => by
      have h6 := (hM p pa (by omega)).1
      rw [h6]
      show dlt L i 1 p = L p
      unfold dlt
      rw [if_neg (by omega)])
    have S2 : Sm L2 (i + 1) = Sm L2 i + L2 i := Sm_s i0.1
    have S3 : Sm L (i + 1) = Sm L i + L i := Sm_s i0.1
    have h7 : L2 i = L i + 1 := by
      rw [(hM i i0.1 i0.2).1]
      show dlt L i 1 i = _
      unfold dlt
      rw [if_pos rfl]
    have i1' : Sm L i ≤ v := i1
    have i2' : v < Sm L (i + 1) := i2
    have B := q_b0 d' (b := 0) (v := v + 1) (j := i) (Or.inl ⟨rfl, by omega⟩) i0 (show Sm L2 i ≤ v + 1 by omega) (show v + 1 < Sm L2 (i + 1) by omega)
    have V1 := q_v2 d'.b0 q0 hj2
    have V2 := q_v2 d'.b0 q1 hj3
    have V3 := q_v3 d'.b0 q0 hj2
    have V4 := q_v3 d'.b0 q1 hj3
    have V5 := q_v0 d'.b0 q1 hj3
    rw [a1] at V1
    rw [a2] at V2
    rw [a3] at V3
    rw [a4] at V4
    rw [a5] at V5
    rw [if_pos (by rw [I_lt (by omega)]; omega), if_neg (by rw [I_l60, I_eq (by omega)]; omega), I_l1, I_add]
    unfold pL_splits_j72
    refine obind E ((if_pos rfl).trans (obind E2 ((if_pos rfl).trans (obind E3 ((if_pos rfl).trans ((if_neg (by rw [I_l0, I_lt (by omega)]; omega)).trans ?_))))))
    rw [I_l1, I_add]
    exact obind V1 ((if_pos rfl).trans (obind V2 ((if_pos (by rw [I_sub])).trans (obind V3 ((if_pos rfl).trans (obind V4 ((if_pos rfl).trans (obind B ((if_pos rfl).trans (obind V5 (if_pos rfl)))))))))))
theorem T_joins0 (d : dX x c0 l0 o0 n0 c1 l1 o1 n1 L R g k w0 w1 ph h) (ht : tX x T t) {v : Int} (q : 0 ≤ v ∧ v < n0) : ∃ x', pL_joins x (I 0) (I v) = some (I 1, x') ∧ lX x' w0 w1 ph h := by
  have kM := d.2.2.2.2.1
  have hn := d.b0.1.1
  have kv := d.b0.1.2 v q.1 q.2
  have hF : ∀ i, 0 ≤ i → i < g → 0 ≤ sel 0 L R i := fun i p z => (okM_S (b := 0) kM i p z).1
  obtain ⟨i, i0, i1, i2⟩ := ex_grp (F := sel 0 L R) (g := g) (v := v) (n := n0) hF kM.1.1 d.2.2.2.2.1.2.2.1 q
  obtain ⟨j, hj⟩ := ex_F (P := c0) (p := c0 v) (g := n0) ⟨v, q.1, q.2, rfl⟩
  have B0 := q_b0 d (b := 0) (Or.inl ⟨rfl, q⟩) i0 i1 i2
  by_cases z : v + 1 = n0 ∨ ¬ c0 v = c0 (v + 1)
  · have E := s_joinB0 d q z
    have j55 : pL_joins_j50 x (I 0) (I v) (I n0) (I g) (I i) = some (I 1, x) := by
      unfold pL_joins_j50 pL_joins_j55
      rw [if_neg (by decide)]
      exact obind E ((if_pos rfl).trans (obind (q_c2 d) (if_pos rfl)))
    refine ⟨x, ?_, lX.mk d ht rfl⟩
    unfold pL_joins
    refine obind (q_c2 d) (obind (q_c4 d) (obind B0 ?_))
    by_cases y : v = n0 - 1
    · rw [if_pos (by rw [I_l1, I_sub, y])]
      exact j55
    · rw [if_neg (by rw [I_l1, I_sub, I_eq (by omega)]; exact y), I_l1, I_add]
      have qv : 0 ≤ v + 1 ∧ v + 1 < n0 := by omega
      have kv1 := d.b0.1.2 (v + 1) qv.1 qv.2
      obtain ⟨j1, hj1⟩ := ex_F (P := c0) (p := c0 (v + 1)) (g := n0) ⟨v + 1, qv.1, qv.2, rfl⟩
      refine obind (q_v0 d.b0 q hj) (obind (q_v0 d.b0 qv hj1) ((if_neg ?_).trans j55))
      rw [I_eq (by omega)]
      rcases z with z | z
      · omega
      · exact z
  · have he : c0 v = c0 (v + 1) := by
      by_cases y : c0 v = c0 (v + 1)
      · exact y
      · exact absurd (Or.inr y) z
    have qv : 0 ≤ v + 1 ∧ v + 1 < n0 := by
      by_cases y : v + 1 = n0
      · exact absurd (Or.inl y) z
      · omega
    have kv1 := d.b0.1.2 (v + 1) qv.1 qv.2
    obtain ⟨j1, hj1⟩ := ex_F (P := c0) (p := c0 (v + 1)) (g := n0) ⟨v + 1, qv.1, qv.2, rfl⟩
    obtain ⟨w, r0, r1, r2⟩ := ex_grp (F := sel 0 L R) (g := g) (v := v + 1) (n := n0) hF kM.1.1 d.2.2.2.2.1.2.2.1 qv
    have iw : i ≤ w := grp_mono (F := sel 0 L R) hF i0 r0 i1 r2 (by omega)
    obtain ⟨x', c2, l2, o2, L3, R3, E, d', -, e, hc, hl, ho, hM⟩ := s_join0 d (v := v) (j := i) (w := w) (by omega) he i0 i1 i2 r0 r1 r2
    refine ⟨x', ?_, lX.mk d' ht e⟩
    have q0 : 0 ≤ v ∧ v < n0 - 1 := by omega
    obtain ⟨j2, hj2⟩ := ex_F (P := c2) (p := c2 v) (g := n0 - 1) ⟨v, q0.1, q0.2, rfl⟩
    have a1 : l2 v = (if 2000 < l0 v + l0 (v + 1) then 2000 else l0 v + l0 (v + 1)) := by rw [hl v q0.1 q0.2, rmv_lo (by omega), up_at rfl]
    have a3 : o2 v = (if 10 < o0 v + o0 (v + 1) then 10 else o0 v + o0 (v + 1)) := by rw [ho v q0.1 q0.2, rmv_lo (by omega), up_at rfl]
    have S1 : Sm L3 i = Sm L i := Sm_congr i0.1 (fun p pa pb => by
      have h6 := (hM p pa (by omega)).1
      rw [h6]
      show dlt (mrg L i w) i (-1) p = L p
      unfold dlt mrg
      rw [if_neg (by omega), if_pos (by omega)])
    have h7 : L3 i = Sm L (w + 1) - Sm L i - 1 := by
      have h6 := (hM i i0.1 (by omega)).1
      rw [h6]
      show dlt (mrg L i w) i (-1) i = _
      unfold dlt mrg
      rw [if_pos rfl, if_neg (by omega), if_pos rfl]
      omega
    have S2 : Sm L3 (i + 1) = Sm L3 i + L3 i := Sm_s i0.1
    have i1' : Sm L i ≤ v := i1
    have r2' : v + 1 < Sm L (w + 1) := r2
    have B := q_b0 d' (b := 0) (v := v) (j := i) (Or.inl ⟨rfl, by omega⟩) (by omega) (show Sm L3 i ≤ v by omega) (show v < Sm L3 (i + 1) by omega)
    have V1 := q_v2 d'.b0 q0 hj2
    have V3 := q_v3 d'.b0 q0 hj2
    rw [a1] at V1
    rw [a3] at V3
    have hg := kM.1
    have j202 : ∀ r : Int, r = (if 2000 < l0 v + l0 (v + 1) then 2000 else l0 v + l0 (v + 1)) → pL_joins_j202 x' (I 0) (I v) (I (o0 v + o0 (v + 1))) (I (if 2000 < l0 v + l0 (v + 1) then 2000 else l0 v + l0 (v + 1))) (I r) = some (I 1, x') := by
      intro r hr
      unfold pL_joins_j202
      rw [if_pos (by rw [hr])]
      refine obind V3 ?_
      by_cases y : o0 v + o0 (v + 1) ≤ 10
      · rw [if_pos (by rw [I_l10, I_le (by omega)]; exact y)]
        exact if_pos (by rw [if_neg (by omega)])
      · rw [if_neg (by rw [I_l10, I_le (by omega)]; exact y)]
        exact if_pos (by rw [if_pos (by omega)]; rfl)
    unfold pL_joins
    refine obind (q_c2 d) (obind (q_c4 d) (obind B0 ?_))
    rw [if_neg (by rw [I_l1, I_sub, I_eq (by omega)]; omega), I_l1, I_add]
    refine obind (q_v0 d.b0 q hj) (obind (q_v0 d.b0 qv hj1) ((if_pos (by rw [he])).trans ?_))
    unfold pL_joins_j55
    rw [if_pos rfl, I_l1, I_add]
    refine obind (q_b0 d (b := 0) (Or.inl ⟨rfl, by omega⟩) r0 r1 r2) (obind (q_v2 d.b0 q hj) (obind (q_v2 d.b0 qv hj1) (obind (q_v3 d.b0 q hj) (obind (q_v3 d.b0 qv hj1) (obind E ((if_pos (by rw [I_sub])).trans (obind (q_c4 d') ((if_pos (by rw [I_sub, I_sub])).trans (obind B ((if_pos rfl).trans (obind V1 ?_)))))))))))
    dsimp only
    rw [I_add, I_add]
    by_cases y : l0 v + l0 (v + 1) ≤ 2000
    · rw [if_pos (by rw [I_l2000, I_le (by omega)]; exact y)]
      exact j202 _ (by rw [if_neg (by omega)])
    · rw [if_neg (by rw [I_l2000, I_le (by omega)]; exact y)]
      exact j202 2000 (by rw [if_pos (by omega)])
theorem T_splits1 (d : dX x c0 l0 o0 n0 c1 l1 o1 n1 L R g k w0 w1 ph h) (ht : tX x T t) {v u : Int} (q : 0 ≤ v ∧ v < n1) (qu : 1 ≤ u ∧ u ≤ 250) : ∃ x', pL_splits x (I 1) (I v) (I u) = some (I 1, x') ∧ lX x' w0 w1 ph h := by
  have kM := d.2.2.2.2.1
  have hn := d.b1.1.1
  have kv := d.b1.1.2 v q.1 q.2
  have hF : ∀ i, 0 ≤ i → i < g → 0 ≤ sel 1 L R i := fun i p z => (okM_S (b := 1) kM i p z).1
  obtain ⟨i, i0, i1, i2⟩ := ex_grp (F := sel 1 L R) (g := g) (v := v) (n := n1) hF kM.1.1 d.2.2.2.2.1.2.2.2 q
  obtain ⟨j, hj⟩ := ex_F (P := c1) (p := c1 v) (g := n1) ⟨v, q.1, q.2, rfl⟩
  have hsz := okM_S (b := 1) kM i i0.1 i0.2
  have head : ∀ K, pL_splits x (I 1) (I v) (I u) = K ↔ (if I u < I (l1 v) then if I n1 = (60 : Int32) then pL_splits_j72 x (I 1) (I v) (I u) (I (l1 v)) (I (o1 v)) (I i) (I (c1 v)) (-3 : Int32) else pL_splits_j72 x (I 1) (I v) (I u) (I (l1 v)) (I (o1 v)) (I i) (I (c1 v)) (I n1 + (1 : Int32)) else pL_splits_j72 x (I 1) (I v) (I u) (I (l1 v)) (I (o1 v)) (I i) (I (c1 v)) (-4 : Int32)) = K := by
    intro K
    have e : pL_splits x (I 1) (I v) (I u) = (if I u < I (l1 v) then if I n1 = (60 : Int32) then pL_splits_j72 x (I 1) (I v) (I u) (I (l1 v)) (I (o1 v)) (I i) (I (c1 v)) (-3 : Int32) else pL_splits_j72 x (I 1) (I v) (I u) (I (l1 v)) (I (o1 v)) (I i) (I (c1 v)) (I n1 + (1 : Int32)) else pL_splits_j72 x (I 1) (I v) (I u) (I (l1 v)) (I (o1 v)) (I i) (I (c1 v)) (-4 : Int32)) := by
      unfold pL_splits
      exact obind (q_c3 d) (obind (q_v2 d.b1 q hj) (obind (q_v3 d.b1 q hj) (obind (q_b0 d (b := 1) (Or.inr ⟨rfl, q⟩) i0 i1 i2) (obind (q_v0 d.b1 q hj) rfl))))
    rw [e]
  by_cases z : l1 v ≤ u ∨ n1 = 60
  · have E := s_splitB1 d q (u := u) (by omega) z
    have E2 := sE_split2 d (b := 1) (v := v) (u := 2000) (Or.inr ⟨rfl, q⟩) (by omega) (by omega)
    have E3 := sE_split2 d (b := 1) (v := v) (u := 0) (Or.inr ⟨rfl, q⟩) (by omega) (by omega)
    have go : ∀ r : Int, r = (if l1 v ≤ u then -4 else -3) → pL_splits_j72 x (I 1) (I v) (I u) (I (l1 v)) (I (o1 v)) (I i) (I (c1 v)) (I r) = some (I 1, x) := by
      intro r hr
      unfold pL_splits_j72
      refine obind E ((if_pos (by rw [hr])).trans (obind E2 ((if_pos rfl).trans (obind E3 ((if_pos rfl).trans (if_pos ?_))))))
      rw [I_l0, I_lt (by split at hr <;> omega)]
      split at hr <;> omega
    refine ⟨x, (head _).mpr ?_, lX.mk d ht rfl⟩
    by_cases y : l1 v ≤ u
    · rw [if_neg (by rw [I_lt (by omega)]; omega)]
      exact go (-4) (by rw [if_pos y])
    · rw [if_pos (by rw [I_lt (by omega)]; omega), if_pos (by rw [show n1 = 60 by omega]; rfl)]
      exact go (-3) (by rw [if_neg y])
  · obtain ⟨x', c2, l2, o2, L2, R2, E, d', -, e, hc, hl, ho, hM⟩ := s_split1 d q (u := u) (by omega) (by omega) i0 i1 i2
    refine ⟨x', (head _).mpr ?_, lX.mk d' ht e⟩
    have q0 : 0 ≤ v ∧ v < n1 + 1 := by omega
    have q1 : 0 ≤ v + 1 ∧ v + 1 < n1 + 1 := by omega
    obtain ⟨j2, hj2⟩ := ex_F (P := c2) (p := c2 v) (g := n1 + 1) ⟨v, q0.1, q0.2, rfl⟩
    obtain ⟨j3, hj3⟩ := ex_F (P := c2) (p := c2 (v + 1)) (g := n1 + 1) ⟨v + 1, q1.1, q1.2, rfl⟩
    have E2 := sE_split2 d' (b := 1) (v := v) (u := 2000) (Or.inr ⟨rfl, by omega⟩) (by omega) (by omega)
    have E3 := sE_split2 d' (b := 1) (v := v) (u := 0) (Or.inr ⟨rfl, by omega⟩) (by omega) (by omega)
    have a1 : l2 v = u := by rw [hl v q0.1 q0.2, ins_lo (by omega), up_at rfl]
    have a2 : l2 (v + 1) = l1 v - u := by rw [hl (v + 1) q1.1 q1.2, ins_at rfl]
    have a3 : o2 v = o1 v := by rw [ho v q0.1 q0.2, ins_lo (by omega)]
    have a4 : o2 (v + 1) = 0 := by rw [ho (v + 1) q1.1 q1.2, ins_at rfl]
    have a5 : c2 (v + 1) = c1 v := by rw [hc (v + 1) q1.1 q1.2, ins_at rfl]
    have S1 : Sm R2 i = Sm R i := Sm_congr i0.1 (fun p pa pb => by
      have h6 := (hM p pa (by omega)).2
      rw [h6]
      show dlt R i 1 p = R p
      unfold dlt
      rw [if_neg (by omega)])
    have S2 : Sm R2 (i + 1) = Sm R2 i + R2 i := Sm_s i0.1
    have S3 : Sm R (i + 1) = Sm R i + R i := Sm_s i0.1
    have h7 : R2 i = R i + 1 := by
      rw [(hM i i0.1 i0.2).2]
      show dlt R i 1 i = _
      unfold dlt
      rw [if_pos rfl]
    have i1' : Sm R i ≤ v := i1
    have i2' : v < Sm R (i + 1) := i2
    have B := q_b0 d' (b := 1) (v := v + 1) (j := i) (Or.inr ⟨rfl, by omega⟩) i0 (show Sm R2 i ≤ v + 1 by omega) (show v + 1 < Sm R2 (i + 1) by omega)
    have V1 := q_v2 d'.b1 q0 hj2
    have V2 := q_v2 d'.b1 q1 hj3
    have V3 := q_v3 d'.b1 q0 hj2
    have V4 := q_v3 d'.b1 q1 hj3
    have V5 := q_v0 d'.b1 q1 hj3
    rw [a1] at V1
    rw [a2] at V2
    rw [a3] at V3
    rw [a4] at V4
    rw [a5] at V5
    rw [if_pos (by rw [I_lt (by omega)]; omega), if_neg (by rw [I_l60, I_eq (by omega)]; omega), I_l1, I_add]
    unfold pL_splits_j72
    refine obind E ((if_pos rfl).trans (obind E2 ((if_pos rfl).trans (obind E3 ((if_pos rfl).trans ((if_neg (by rw [I_l0, I_lt (by omega)]; omega)).trans ?_))))))
    rw [I_l1, I_add]
    exact obind V1 ((if_pos rfl).trans (obind V2 ((if_pos (by rw [I_sub])).trans (obind V3 ((if_pos rfl).trans (obind V4 ((if_pos rfl).trans (obind B ((if_pos rfl).trans (obind V5 (if_pos rfl)))))))))))
theorem T_joins1 (d : dX x c0 l0 o0 n0 c1 l1 o1 n1 L R g k w0 w1 ph h) (ht : tX x T t) {v : Int} (q : 0 ≤ v ∧ v < n1) : ∃ x', pL_joins x (I 1) (I v) = some (I 1, x') ∧ lX x' w0 w1 ph h := by
  have kM := d.2.2.2.2.1
  have hn := d.b1.1.1
  have kv := d.b1.1.2 v q.1 q.2
  have hF : ∀ i, 0 ≤ i → i < g → 0 ≤ sel 1 L R i := fun i p z => (okM_S (b := 1) kM i p z).1
  obtain ⟨i, i0, i1, i2⟩ := ex_grp (F := sel 1 L R) (g := g) (v := v) (n := n1) hF kM.1.1 d.2.2.2.2.1.2.2.2 q
  obtain ⟨j, hj⟩ := ex_F (P := c1) (p := c1 v) (g := n1) ⟨v, q.1, q.2, rfl⟩
  have B0 := q_b0 d (b := 1) (Or.inr ⟨rfl, q⟩) i0 i1 i2
  by_cases z : v + 1 = n1 ∨ ¬ c1 v = c1 (v + 1)
  · have E := s_joinB1 d q z
    have j55 : pL_joins_j50 x (I 1) (I v) (I n1) (I g) (I i) = some (I 1, x) := by
      unfold pL_joins_j50 pL_joins_j55
      rw [if_neg (by decide)]
      exact obind E ((if_pos rfl).trans (obind (q_c3 d) (if_pos rfl)))
    refine ⟨x, ?_, lX.mk d ht rfl⟩
    unfold pL_joins
    refine obind (q_c3 d) (obind (q_c4 d) (obind B0 ?_))
    by_cases y : v = n1 - 1
    · rw [if_pos (by rw [I_l1, I_sub, y])]
      exact j55
    · rw [if_neg (by rw [I_l1, I_sub, I_eq (by omega)]; exact y), I_l1, I_add]
      have qv : 0 ≤ v + 1 ∧ v + 1 < n1 := by omega
      have kv1 := d.b1.1.2 (v + 1) qv.1 qv.2
      obtain ⟨j1, hj1⟩ := ex_F (P := c1) (p := c1 (v + 1)) (g := n1) ⟨v + 1, qv.1, qv.2, rfl⟩
      refine obind (q_v0 d.b1 q hj) (obind (q_v0 d.b1 qv hj1) ((if_neg ?_).trans j55))
      rw [I_eq (by omega)]
      rcases z with z | z
      · omega
      · exact z
  · have he : c1 v = c1 (v + 1) := by
      by_cases y : c1 v = c1 (v + 1)
      · exact y
      · exact absurd (Or.inr y) z
    have qv : 0 ≤ v + 1 ∧ v + 1 < n1 := by
      by_cases y : v + 1 = n1
      · exact absurd (Or.inl y) z
      · omega
    have kv1 := d.b1.1.2 (v + 1) qv.1 qv.2
    obtain ⟨j1, hj1⟩ := ex_F (P := c1) (p := c1 (v + 1)) (g := n1) ⟨v + 1, qv.1, qv.2, rfl⟩
    obtain ⟨w, r0, r1, r2⟩ := ex_grp (F := sel 1 L R) (g := g) (v := v + 1) (n := n1) hF kM.1.1 d.2.2.2.2.1.2.2.2 qv
    have iw : i ≤ w := grp_mono (F := sel 1 L R) hF i0 r0 i1 r2 (by omega)
    obtain ⟨x', c2, l2, o2, L3, R3, E, d', -, e, hc, hl, ho, hM⟩ := s_join1 d (v := v) (j := i) (w := w) (by omega) he i0 i1 i2 r0 r1 r2
    refine ⟨x', ?_, lX.mk d' ht e⟩
    have q0 : 0 ≤ v ∧ v < n1 - 1 := by omega
    obtain ⟨j2, hj2⟩ := ex_F (P := c2) (p := c2 v) (g := n1 - 1) ⟨v, q0.1, q0.2, rfl⟩
    have a1 : l2 v = (if 2000 < l1 v + l1 (v + 1) then 2000 else l1 v + l1 (v + 1)) := by rw [hl v q0.1 q0.2, rmv_lo (by omega), up_at rfl]
    have a3 : o2 v = (if 10 < o1 v + o1 (v + 1) then 10 else o1 v + o1 (v + 1)) := by rw [ho v q0.1 q0.2, rmv_lo (by omega), up_at rfl]
    have S1 : Sm R3 i = Sm R i := Sm_congr i0.1 (fun p pa pb => by
      have h6 := (hM p pa (by omega)).2
      rw [h6]
      show dlt (mrg R i w) i (-1) p = R p
      unfold dlt mrg
      rw [if_neg (by omega), if_pos (by omega)])
    have h7 : R3 i = Sm R (w + 1) - Sm R i - 1 := by
      have h6 := (hM i i0.1 (by omega)).2
      rw [h6]
      show dlt (mrg R i w) i (-1) i = _
      unfold dlt mrg
      rw [if_pos rfl, if_neg (by omega), if_pos rfl]
      omega
    have S2 : Sm R3 (i + 1) = Sm R3 i + R3 i := Sm_s i0.1
    have i1' : Sm R i ≤ v := i1
    have r2' : v + 1 < Sm R (w + 1) := r2
    have B := q_b0 d' (b := 1) (v := v) (j := i) (Or.inr ⟨rfl, by omega⟩) (by omega) (show Sm R3 i ≤ v by omega) (show v < Sm R3 (i + 1) by omega)
    have V1 := q_v2 d'.b1 q0 hj2
    have V3 := q_v3 d'.b1 q0 hj2
    rw [a1] at V1
    rw [a3] at V3
    have hg := kM.1
    have j202 : ∀ r : Int, r = (if 2000 < l1 v + l1 (v + 1) then 2000 else l1 v + l1 (v + 1)) → pL_joins_j202 x' (I 1) (I v) (I (o1 v + o1 (v + 1))) (I (if 2000 < l1 v + l1 (v + 1) then 2000 else l1 v + l1 (v + 1))) (I r) = some (I 1, x') := by
      intro r hr
      unfold pL_joins_j202
      rw [if_pos (by rw [hr])]
      refine obind V3 ?_
      by_cases y : o1 v + o1 (v + 1) ≤ 10
      · rw [if_pos (by rw [I_l10, I_le (by omega)]; exact y)]
        exact if_pos (by rw [if_neg (by omega)])
      · rw [if_neg (by rw [I_l10, I_le (by omega)]; exact y)]
        exact if_pos (by rw [if_pos (by omega)]; rfl)
    unfold pL_joins
    refine obind (q_c3 d) (obind (q_c4 d) (obind B0 ?_))
    rw [if_neg (by rw [I_l1, I_sub, I_eq (by omega)]; omega), I_l1, I_add]
    refine obind (q_v0 d.b1 q hj) (obind (q_v0 d.b1 qv hj1) ((if_pos (by rw [he])).trans ?_))
    unfold pL_joins_j55
    rw [if_pos rfl, I_l1, I_add]
    refine obind (q_b0 d (b := 1) (Or.inr ⟨rfl, by omega⟩) r0 r1 r2) (obind (q_v2 d.b1 q hj) (obind (q_v2 d.b1 qv hj1) (obind (q_v3 d.b1 q hj) (obind (q_v3 d.b1 qv hj1) (obind E ((if_pos (by rw [I_sub])).trans (obind (q_c4 d') ((if_pos (by rw [I_sub, I_sub])).trans (obind B ((if_pos rfl).trans (obind V1 ?_)))))))))))
    dsimp only
    rw [I_add, I_add]
    by_cases y : l1 v + l1 (v + 1) ≤ 2000
    · rw [if_pos (by rw [I_l2000, I_le (by omega)]; exact y)]
      exact j202 _ (by rw [if_neg (by omega)])
    · rw [if_neg (by rw [I_l2000, I_le (by omega)]; exact y)]
      exact j202 2000 (by rw [if_pos (by omega)])
theorem sE_x (d : dX x c0 l0 o0 n0 c1 l1 o1 n1 L R g k w0 w1 ph h) {a : Int} (q : 0 ≤ a ∧ a < g) : sPart x (I a) (61 : Int32) (0 : Int32) = some (I (-2), x) ∧ sPart x (I g) (0 : Int32) (0 : Int32) = some (I (-1), x) :=
  ⟨s_part2 d q (u := 61) (v := 0) (by omega) (by omega), s_part1 d (a := g) (by omega) (by have := d.2.2.2.2.1.1; omega)⟩
theorem T_parts (d : dX x c0 l0 o0 n0 c1 l1 o1 n1 L R g k w0 w1 ph h) (ht : tX x T t) {a u v : Int} (q : 0 ≤ a ∧ a < g) (qu : 0 ≤ u ∧ u ≤ 3) (qv : 0 ≤ v ∧ v ≤ 3) : ∃ x', pL_parts x (I a) (I u) (I v) = some (I 1, x') ∧ lX x' w0 w1 ph h := by
  have kM := d.2.2.2.2.1
  have hg := kM.1
  have hm := kM.2.1 a q.1 q.2
  by_cases z : L a - u < 0 ∨ R a - v < 0 ∨ u + v = 0 ∨ L a - u + (R a - v) = 0
  · have E := s_part4 d q (u := u) (v := v) (by omega) (by omega) z
    have E2 := sE_x d q
    refine ⟨x, ?_, lX.mk d ht rfl⟩
    have j56 : pL_parts_j56 x (I a) (I u) (I v) (I (L a)) (I (R a)) (I g) = some (I 1, x) := by
      unfold pL_parts_j56 pL_parts_j57
      refine obind E ((if_pos rfl).trans ?_)
      unfold pL_parts_j80
      dsimp only
      rw [if_pos (show I (-4) = (-4 : Int32) from rfl)]
      exact obind E2.1 ((if_pos rfl).trans (obind (q_c4 d) (obind E2.2 ((if_pos rfl).trans ((if_pos rfl).trans (obind (q_c4 d) (if_pos rfl)))))))
    unfold pL_parts
    refine obind (q_g2 d q) (obind (q_g4 d q) (obind (q_c4 d) ?_))
    rw [I_add, I_add]
    by_cases y1 : L a < u
    · rw [if_pos (by rw [I_lt (by omega)]; exact y1)]
      exact j56
    · rw [if_neg (by rw [I_lt (by omega)]; exact y1)]
      by_cases y2 : R a < v
      · rw [if_pos (by rw [I_lt (by omega)]; exact y2)]
        exact j56
      · rw [if_neg (by rw [I_lt (by omega)]; exact y2)]
        by_cases y3 : u + v ≤ 0
        · rw [if_pos (by rw [I_l0, I_le (by omega)]; exact y3)]
          exact j56
        · rw [if_neg (by rw [I_l0, I_le (by omega)]; exact y3), if_pos (by rw [I_le (by omega)]; omega)]
          exact j56
  · obtain ⟨x', L2, R2, E, d', t1, e, hM⟩ := s_part d q (u := u) (v := v) (by omega) (by omega) z
    have g2 := okM_g2 kM q (by omega)
    have q' : 0 ≤ a ∧ a < g + 1 := by omega
    have E2 := sE_x d' q'
    obtain ⟨x2, L3, R3, F, d2, t2, e2, hM2⟩ := s_link d' (a := a) (by omega)
    rw [show g + 1 - 1 = g by omega] at F d2 hM2
    obtain ⟨U, hA2, -⟩ := s_undo d2 t2
    have hk := d2.2.2.2.2.2.1.2.1
    have d3 : dX (x'.1, (I (k5 (k5 k) - 1), x2.2.1.2), x2.2.2) c0 l0 o0 n0 c1 l1 o1 n1 L2 R2 (g + 1) (k5 (k5 k) - 1) w0 w1 ph h := ⟨d'.1, d2.2.1, d'.2.2.1, d'.2.2.2.1, d'.2.2.2.2.1, hA2, d'.2.2.2.2.2.2⟩
    refine ⟨_, ?_, lX.mk d3 ht (by show x2.2.2 = x.2.2; rw [e2, e])⟩
    have m1 := hM a q'.1 q'.2
    have m2 := hM (a + 1) (by omega) (by omega)
    have c1' : L2 a = u ∧ R2 a = v := by
      rw [m1.1, m1.2]
      unfold ctf
      rw [if_neg (by omega), if_pos rfl, if_neg (by omega), if_pos rfl]
      exact ⟨rfl, rfl⟩
    have c2' : L2 (a + 1) = L a - u ∧ R2 (a + 1) = R a - v := by
      rw [m2.1, m2.2]
      unfold ctf
      rw [if_neg (by omega), if_neg (by omega), if_pos rfl, if_neg (by omega), if_neg (by omega), if_pos rfl]
      exact ⟨rfl, rfl⟩
    have m3 := hM2 a q.1 q.2
    have c3' : L3 a = L a ∧ R3 a = R a := by
      rw [m3.1, m3.2]
      unfold mrg
      rw [if_neg (by omega), if_pos rfl, if_neg (by omega), if_pos rfl]
      have s1 : Sm L2 (a + 1 + 1) = Sm L2 (a + 1) + L2 (a + 1) := Sm_s (by omega)
      have s2 : Sm L2 (a + 1) = Sm L2 a + L2 a := Sm_s (by omega)
      have s3 : Sm R2 (a + 1 + 1) = Sm R2 (a + 1) + R2 (a + 1) := Sm_s (by omega)
      have s4 : Sm R2 (a + 1) = Sm R2 a + R2 a := Sm_s (by omega)
      omega
    have G1 := q_g2 d' q'
    have G2 := q_g4 d' q'
    have G3 := q_g2 d' (p := a + 1) (by omega)
    have G4 := q_g4 d' (p := a + 1) (by omega)
    have G5 := q_g2 d2 q
    have G6 := q_g4 d2 q
    rw [c1'.1] at G1
    rw [c1'.2] at G2
    rw [c2'.1] at G3
    rw [c2'.2] at G4
    rw [c3'.1] at G5
    rw [c3'.2] at G6
    have j189 : pL_parts_j189 x' (I a) (I (L a)) (I (R a)) (I g) (I 1) = some (I 1, (x'.1, (I (k5 (k5 k) - 1), x2.2.1.2), x2.2.2)) := by
      unfold pL_parts_j189
      rw [if_neg (by decide)]
      refine obind F ((if_pos rfl).trans (obind G5 ((if_pos rfl).trans (obind G6 ((if_pos rfl).trans (obind U ((if_neg ?_).trans (obind (q_c4 d3) (if_pos ?_)))))))))
      · dsimp only
        have hk2 := k5_bd (k := k5 k) (by have := k5_bd d.2.2.2.2.2.1.2.1; omega)
        rw [I_l0, I_lt (by omega)]
        omega
      · rw [I_l1, I_add]
    unfold pL_parts
    refine obind (q_g2 d q) (obind (q_g4 d q) (obind (q_c4 d) ?_))
    rw [I_add, I_add, if_neg (by rw [I_lt (by omega)]; omega), if_neg (by rw [I_lt (by omega)]; omega), if_neg (by rw [I_l0, I_le (by omega)]; omega), if_neg (by rw [I_le (by omega)]; omega)]
    unfold pL_parts_j57
    refine obind E ((if_neg (by decide)).trans ?_)
    unfold pL_parts_j80
    dsimp only
    rw [if_pos (by rw [I_l1, I_add])]
    refine obind E2.1 ((if_pos rfl).trans (obind (q_c4 d') (obind E2.2 ((if_pos rfl).trans ((if_neg (by decide)).trans (obind G1 ((if_pos rfl).trans (obind G2 ((if_pos rfl).trans ?_)))))))))
    rw [I_l1, I_add]
    exact obind G3 ((if_pos (by rw [I_sub])).trans (obind G4 ((if_pos (by rw [I_sub])).trans j189)))
theorem oe {α : Type} {x : Sg} {v r : Int32} {A : Option (Int32 × Sg)} {K1 K2 : Int32 × Sg → Option α} {R : Option α} (h : A = some (v, x)) (e : v = r) (k : K1 (v, x) = R) : (A.bind fun q => if q.1 = r then K1 q else K2 q) = R := by
  rw [h]
  exact (if_pos e).trans k
theorem T_errors (d : dX x c0 l0 o0 n0 c1 l1 o1 n1 L R g k w0 w1 ph h) : pL_errors x = some (I 1, x) := by
  have kM := d.2.2.2.2.1
  have hg := kM.1
  have b0 := d.b0.1.1
  have b1 := d.b1.1.1
  have m1 : I (-1) = (-1 : Int32) := rfl
  have m2 : I (-2) = (-2 : Int32) := rfl
  have m4 : I (-4) = (-4 : Int32) := rfl
  have w1' : sSetWidth x (2 : Int32) (40 : Int32) = some (I (-1), x) := sE_setWidth1 d (b := 2) (by omega) (by omega)
  have w2 : sSetWidth x (0 : Int32) (9 : Int32) = some (I (-2), x) := sE_setWidth2 d (b := 0) (u := 9) (by omega) (by omega) (by omega)
  have w3 : sSetWidth x (0 : Int32) (201 : Int32) = some (I (-2), x) := sE_setWidth2 d (b := 0) (u := 201) (by omega) (by omega) (by omega)
  have h1 : sSetHeights x (4 : Int32) (0 : Int32) = some (I (-2), x) := sE_setHeights2 d (u := 4) (y := 0) (by omega) (by omega)
  have h2 : sSetHeights x (5 : Int32) (6 : Int32) = some (I (-2), x) := sE_setHeights2 d (u := 5) (y := 6) (by omega) (by omega)
  have j138 : pL_errors_j138 x = some (I 1, x) := by
    unfold pL_errors_j138
    exact oe w1' m1 (oe w2 m2 (oe w3 m2 (oe h1 m2 (oe h2 m2 rfl))))
  have l1' : sLink x (I g) = some (I (-1), x) := s_link1 d (a := g) (by omega) (by omega)
  have j96 : pL_errors_j96 x (I 1) = some (I 1, x) := by
    unfold pL_errors_j96
    rw [if_neg (by decide)]
    refine obind (q_c4 d) (oe l1' m1 (obind (q_c4 d) ?_))
    by_cases z : g = 0
    · rw [if_pos (by rw [z]; rfl)]
      exact j138
    · rw [if_neg (by rw [I_l0, I_eq (by omega)]; exact z)]
      refine obind (q_c4 d) ?_
      rw [I_l1, I_sub]
      exact oe (s_link4 d (a := g - 1) (by omega)) m4 j138
  have a1 : sAddChapter x (2 : Int32) (1 : Int32) (1 : Int32) = some (I (-1), x) := sE_add1 d (b := 2) (by omega) (by omega)
  have a2 : sAddChapter x (0 : Int32) (0 : Int32) (1 : Int32) = some (I (-2), x) := sE_add2 d (b := 0) (v := 0) (u := 1) (by omega) (by omega) (by omega)
  have a3 : sAddChapter x (0 : Int32) (61 : Int32) (1 : Int32) = some (I (-2), x) := sE_add2 d (b := 0) (v := 61) (u := 1) (by omega) (by omega) (by omega)
  have a4 : sAddChapter x (0 : Int32) (1 : Int32) (2001 : Int32) = some (I (-2), x) := sE_add2 d (b := 0) (v := 1) (u := 2001) (by omega) (by omega) (by omega)
  have v1 : sSetVerse x (0 : Int32) (I n0) (1 : Int32) (0 : Int32) = some (I (-1), x) := sE_setVerse1 d (b := 0) (v := n0) (by omega) (by omega)
  have v2 : sJoinVerses x (1 : Int32) (I n1) = some (I (-1), x) := sE_join1 d (b := 1) (v := n1) (by omega) (by omega)
  have v3 : sSplitVerse x (0 : Int32) (-1 : Int32) (1 : Int32) = some (I (-1), x) := by
    rw [← m1]
    exact sE_split1 d (b := 0) (v := -1) (i3 := 1) (by omega) (by omega)
  unfold pL_errors
  refine oe a1 m1 (oe a2 m2 (oe a3 m2 (oe a4 m2 ?_)))
  refine obind (q_c2 d) (oe v1 m1 ?_)
  exact obind (q_c3 d) (oe v2 m1 (oe v3 m1 j96))
end TA
