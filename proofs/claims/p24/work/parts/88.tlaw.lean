-- the law's body comes to true (printed by wip/p24/fun/mk88.py)
def lw_x0 : Sg := (zST, (0, zST, zST, zST, zST, zST), (z0, 0), (z0, z0), (40, 40, 40, 2))
def tlK (xs : Nat → Int32) (Ln : Nat) (K : Sg → (Nat → Int32) → Int32 → Int32 → Int32 → Option Int32) (e : Int) : Prop := ∀ (x : Sg) (f : Nat → Int32) (w0 w1 ph h : Int), lX x w0 w1 ph h → f 0 = I w0 → f 1 = I w1 → pL_law_j800 xs Ln K x f (I ph) (I h) (I e) = some (1 : Int32)
theorem n10 : ¬ I 1 = (0 : Int32) := by decide
theorem lX.up {x x' : Sg} {c0 l0 o0 : Int → Int} {n0 : Int} {c1 l1 o1 : Int → Int} {n1 : Int} {L R : Int → Int} {g k w0 w1 ph h : Int} {T : Int → Int} {t : Int} (d' : dX x' c0 l0 o0 n0 c1 l1 o1 n1 L R g k w0 w1 ph h) (ht : tX x T t) (e : x'.2.2.1 = x.2.2.1) : lX x' w0 w1 ph h := ⟨⟨c0, l0, o0, n0, c1, l1, o1, n1, L, R, g, k, d'⟩, T, t, ⟨by rw [e]; exact ht.1, ht.2⟩⟩
theorem tl_800 {x : Sg} {w0 w1 ph h e : Int} {f : Nat → Int32} {xs : Nat → Int32} {Ln : Nat} {K : Sg → (Nat → Int32) → Int32 → Int32 → Int32 → Option Int32} (a : lX x w0 w1 ph h) (f0 : f 0 = I w0) (f1 : f 1 = I w1) (kk : K x f (I ph) (I h) (I (e + 1)) = some (1 : Int32)) : pL_law_j800 xs Ln K x f (I ph) (I h) (I e) = some (1 : Int32) := by
  obtain ⟨⟨c0, l0, o0, n0, c1, l1, o1, n1, L, R, g, k, d⟩, -⟩ := a
  unfold pL_law_j800
  rw [I_l1, I_add]
  exact obind (T_books d f0 f1) ((if_neg (by decide)).trans (obind (T_groups d) ((if_neg (by decide)).trans (obind (T_pages d) ((if_neg (by decide)).trans kk)))))
theorem pr_cnt {m n : Int} {L R : Int → Int} (hm : 0 ≤ m) (hn : 0 ≤ n) (hL : ∀ i, 0 ≤ i → i < mx m n → L i = p01 m i ∧ R i = p01 n i) : ∀ i, 0 ≤ i → i ≤ mx m n → ksm L R 0 i = mn i (mn m n) ∧ ksm L R 3 i = 0 := by
  refine fun i h0 h1 => ?_
  have key : ∀ j : Nat, (j : Int) ≤ mx m n → ksm L R 0 j = mn j (mn m n) ∧ ksm L R 3 j = 0 := by
    intro j
    induction j with
    | zero =>
      intro _
      refine ⟨?_, Sm_0 _⟩
      have e : ksm L R 0 ((0 : Nat) : Int) = 0 := Sm_0 _
      rw [e]
      unfold mn
      repeat' split
      all_goals omega
    | succ j ih =>
      intro hj
      obtain ⟨i1, i2⟩ := ih (by omega)
      have q := hL j (by omega) (by omega)
      have s0 : ksm L R 0 ((j : Int) + 1) = ksm L R 0 j + (if knd (L j) (R j) = 0 then 1 else 0) := Sm_s (by omega)
      have s3 : ksm L R 3 ((j : Int) + 1) = ksm L R 3 j + (if knd (L j) (R j) = 3 then 1 else 0) := Sm_s (by omega)
      have ej : ((j + 1 : Nat) : Int) = (j : Int) + 1 := by omega
      rw [ej, s0, s3, i1, i2, q.1, q.2]
      rw [ej] at hj
      unfold mx at hj
      unfold knd p01 mn
      constructor
      all_goals repeat' split
      all_goals first | omega | rfl
  obtain ⟨j, rfl⟩ : ∃ j : Nat, i = j := ⟨i.toNat, by omega⟩
  exact key j h1
section TLW
variable {x : Sg} {c0 l0 o0 : Int → Int} {n0 : Int} {c1 l1 o1 : Int → Int} {n1 : Int} {L R : Int → Int} {g k w0 w1 ph h : Int} {T : Int → Int} {t : Int} {e : Int} {f : Nat → Int32} {xs : Nat → Int32} {Ln : Nat} {K : Sg → (Nat → Int32) → Int32 → Int32 → Int32 → Option Int32}
theorem tl_694 (d : dX x c0 l0 o0 n0 c1 l1 o1 n1 L R g k w0 w1 ph h) (ht : tX x T t) (f0 : f 0 = I w0) (f1 : f 1 = I w1) (kk : tlK xs Ln K e) (y7 : Int32) : pL_law_j694 xs Ln K x f (I ph) (I h) (I e) y7 (I (mn n0 n1)) = some (1 : Int32) := by
  obtain ⟨hb, hb2, kM, hg⟩ : (0 ≤ n0 ∧ n0 ≤ 60) ∧ (0 ≤ n1 ∧ n1 ≤ 60) ∧ okM g L R n0 n1 ∧ 0 ≤ g ∧ g ≤ 120 := ⟨d.b0.1.1, d.b1.1.1, d.2.2.2.2.1, d.2.2.2.2.1.1⟩
  unfold pL_law_j694
  refine obind (q_c2 d) (obind (q_c3 d) ?_)
  by_cases z : (y7 &&& (1 : Int32)) = 0
  · rw [if_pos z]
    obtain ⟨x', E, l⟩ := T_turns d ht
    refine obind E ((if_neg n10).trans ?_)
    unfold pL_law_j764
    exact kk _ _ _ _ _ _ l f0 f1
  · rw [if_neg z]
    obtain ⟨x', L2, R2, E, d', -, e2, hLR⟩ := s_pairAll d
    have hm : 0 ≤ mx n0 n1 := by unfold mx; split <;> omega
    obtain ⟨p1, p2⟩ := pr_cnt hb.1 hb2.1 hLR (mx n0 n1) hm (Int.le_refl _)
    have p3 : mn (mx n0 n1) (mn n0 n1) = mn n0 n1 := by unfold mn mx; repeat' split <;> omega
    have ee : I (mx n0 n1) = I (mn n0 n1) + ((I n0 + I n1) - (2 : Int32) * I (mn n0 n1)) := by
      rw [I_l2, I_mul, I_add, I_sub, I_add, show mn n0 n1 + (n0 + n1 - 2 * mn n0 n1) = mx n0 n1 by unfold mn mx; repeat' split <;> omega]
    have c5 : sCount x' (I 5) = some (I (mn n0 n1)) := by
      rw [q_c5 d', p1, p3]
    have c8 : sCount x' (I 8) = some (I 0) := by
      rw [q_c8 d', p2]
    refine obind E ((if_pos ee).trans (obind c5 ((if_pos rfl).trans (obind c8 ((if_pos rfl).trans ?_)))))
    unfold pL_law_j764
    exact kk _ _ _ _ _ _ (lX.mk d' ht e2) f0 f1
theorem tl_568 (d : dX x c0 l0 o0 n0 c1 l1 o1 n1 L R g k w0 w1 ph h) (ht : tX x T t) (f0 : f 0 = I w0) (f1 : f 1 = I w1) (kk : tlK xs Ln K e) (y6 y7 : Int32) {cs b : Int} (hcs : 0 ≤ cs ∧ cs ≤ 12) (hb01 : b = 0 ∨ b = 1) : pL_law_j568 xs Ln K x f (I ph) (I h) (I e) y6 y7 (I cs) (I b) = some (1 : Int32) := by
  obtain ⟨hb, hb2, kM, hg⟩ : (0 ≤ n0 ∧ n0 ≤ 60) ∧ (0 ≤ n1 ∧ n1 ≤ 60) ∧ okM g L R n0 n1 ∧ 0 ≤ g ∧ g ≤ 120 := ⟨d.b0.1.1, d.b1.1.1, d.2.2.2.2.1, d.2.2.2.2.1.1⟩
  unfold pL_law_j568
  by_cases c8 : cs = 8
  · rw [if_pos (by rw [c8]; rfl)]
    obtain ⟨a, ha, El⟩ := T_low (n := 60) (by omega) y7
    have e10 : (10 : Int32) + I a = I (10 + a) := by rw [I_l10, I_add]
    rcases hb01 with rfl | rfl
    · obtain ⟨x', E, d', -, -, e2⟩ := s_setWidth0 d (u := 10 + a) (by omega)
      have u0 : upd f (I 0).toNatClampNeg ((10 : Int32) + I a) 0 = I (10 + a) := by rw [e10]; rfl
      have u1 : upd f (I 0).toNatClampNeg ((10 : Int32) + I a) 1 = I w1 := f1
      have E' : sSetWidth x (I 0) (upd f (I 0).toNatClampNeg ((10 : Int32) + I a) (I 0).toNatClampNeg) = some (I w0, x') := by
        rw [show upd f (I 0).toNatClampNeg ((10 : Int32) + I a) (I 0).toNatClampNeg = I (10 + a) from u0]
        exact E
      have e3 : I w0 = f (I 0).toNatClampNeg := f0.symm
      exact (if_pos (by decide)).trans (obind El ((if_pos (by decide)).trans ((if_pos (by decide)).trans (obind E' ((if_pos e3).trans (kk _ _ _ _ _ _ (lX.up d' ht e2) u0 u1))))))
    · obtain ⟨x', E, d', -, -, e2⟩ := s_setWidth1 d (u := 10 + a) (by omega)
      have u0 : upd f (I 1).toNatClampNeg ((10 : Int32) + I a) 1 = I (10 + a) := by rw [e10]; rfl
      have u1 : upd f (I 1).toNatClampNeg ((10 : Int32) + I a) 0 = I w0 := f0
      have E' : sSetWidth x (I 1) (upd f (I 1).toNatClampNeg ((10 : Int32) + I a) (I 1).toNatClampNeg) = some (I w1, x') := by
        rw [show upd f (I 1).toNatClampNeg ((10 : Int32) + I a) (I 1).toNatClampNeg = I (10 + a) from u0]
        exact E
      have e3 : I w1 = f (I 1).toNatClampNeg := f1.symm
      exact (if_pos (by decide)).trans (obind El ((if_pos (by decide)).trans ((if_pos (by decide)).trans (obind E' ((if_pos e3).trans (kk _ _ _ _ _ _ (lX.up d' ht e2) u1 u0))))))
  rw [if_neg (by rw [I_l8, I_eq (by omega)]; exact c8)]
  by_cases c9 : cs = 9
  · rw [if_pos (by rw [c9]; rfl)]
    obtain ⟨a, ha, El⟩ := T_low (n := 60) (by omega) y7
    obtain ⟨hh, hhb, El2⟩ := T_low (n := 6) (by omega) y6
    obtain ⟨x', E, d', -, -, e2⟩ := s_setHeights d (u := 5 + a) (y := hh) (by omega) (by omega)
    have e5 : (5 : Int32) + I a = I (5 + a) := by rw [I_l5, I_add]
    refine obind El (obind El2 ?_)
    rw [e5]
    exact obind E ((if_pos rfl).trans (kk _ _ _ _ _ _ (lX.up d' ht e2) f0 f1))
  rw [if_neg (by rw [I_l9, I_eq (by omega)]; exact c9)]
  by_cases c10 : cs = 10
  · rw [if_pos (by rw [c10]; rfl)]
    refine obind (q_c2 d) (obind (q_c3 d) ?_)
    have m := tl_694 d ht f0 f1 kk y7
    by_cases z : n1 ≤ n0
    · rw [if_pos (by rw [I_le (by omega)]; exact z)]
      rw [show mn n0 n1 = n1 by unfold mn; rw [if_pos z]] at m
      exact obind (q_c3 d) m
    · rw [if_neg (by rw [I_le (by omega)]; exact z)]
      rw [show mn n0 n1 = n0 by unfold mn; rw [if_neg z]] at m
      exact obind (q_c2 d) m
  rw [if_neg (by rw [I_l10, I_eq (by omega)]; exact c10)]
  by_cases c11 : cs = 11
  · rw [if_pos (by rw [c11]; rfl)]
    rcases hb01 with rfl | rfl
    · obtain ⟨x', T', t', E, s, h'⟩ := T_refers0 d ht (y6 >>> ((1 : Int32) &&& 31)) y7
      exact obind E ((if_neg n10).trans (kk _ _ _ _ _ _ ⟨⟨_, _, _, _, _, _, _, _, _, _, _, _, d.sx s⟩, T', t', h'⟩ f0 f1))
    · obtain ⟨x', T', t', E, s, h'⟩ := T_refers1 d ht (y6 >>> ((1 : Int32) &&& 31)) y7
      exact obind E ((if_neg n10).trans (kk _ _ _ _ _ _ ⟨⟨_, _, _, _, _, _, _, _, _, _, _, _, d.sx s⟩, T', t', h'⟩ f0 f1))
  rw [if_neg (by rw [I_l11, I_eq (by omega)]; exact c11)]
  obtain ⟨x', E, l⟩ := T_maps d ht
  exact obind E ((if_neg n10).trans (kk _ _ _ _ _ _ l f0 f1))
theorem tl_531 (d : dX x c0 l0 o0 n0 c1 l1 o1 n1 L R g k w0 w1 ph h) (ht : tX x T t) (f0 : f 0 = I w0) (f1 : f 1 = I w1) (kk : tlK xs Ln K e) (y6 y7 : Int32) {cs b a : Int} (hcs : 0 ≤ cs ∧ cs ≤ 12) (hb01 : b = 0 ∨ b = 1) (ha : 0 < g → 0 ≤ a ∧ a < g) : pL_law_j531 xs Ln K x f (I ph) (I h) (I e) y6 y7 (I cs) (I b) (I g) (I a) = some (1 : Int32) := by
  obtain ⟨hb, hb2, kM, hg⟩ : (0 ≤ n0 ∧ n0 ≤ 60) ∧ (0 ≤ n1 ∧ n1 ≤ 60) ∧ okM g L R n0 n1 ∧ 0 ≤ g ∧ g ≤ 120 := ⟨d.b0.1.1, d.b1.1.1, d.2.2.2.2.1, d.2.2.2.2.1.1⟩
  have j568 := tl_568 d ht f0 f1 kk y6 y7 hcs hb01
  unfold pL_law_j531
  by_cases c : cs = 7
  · rw [if_pos (by rw [c]; rfl)]
    by_cases z : g ≤ 0
    · rw [if_pos (by rw [I_l0, I_le (by omega)]; exact z)]
      exact j568
    · rw [if_neg (by rw [I_l0, I_le (by omega)]; exact z)]
      obtain ⟨u, hu, El⟩ := T_low (n := 4) (by omega) (y6 >>> ((1 : Int32) &&& 31))
      obtain ⟨v, hv, El2⟩ := T_low (n := 4) (by omega) y7
      obtain ⟨x', E, l⟩ := T_parts d ht (a := a) (u := u) (v := v) (ha (by omega)) (by omega) (by omega)
      exact obind El (obind El2 (obind E ((if_neg n10).trans (kk _ _ _ _ _ _ l f0 f1))))
  · rw [if_neg (by rw [I_l7, I_eq (by omega)]; exact c)]
    exact j568
theorem tl_458 (d : dX x c0 l0 o0 n0 c1 l1 o1 n1 L R g k w0 w1 ph h) (ht : tX x T t) (f0 : f 0 = I w0) (f1 : f 1 = I w1) (kk : tlK xs Ln K e) (y6 y7 : Int32) {cs b a : Int} (hcs : 0 ≤ cs ∧ cs ≤ 12) (hb01 : b = 0 ∨ b = 1) (ha : 0 < g → 0 ≤ a ∧ a < g) : pL_law_j458 xs Ln K x f (I ph) (I h) (I e) y6 y7 (I cs) (I b) (I g) (I a) = some (1 : Int32) := by
  obtain ⟨hb, hb2, kM, hg⟩ : (0 ≤ n0 ∧ n0 ≤ 60) ∧ (0 ≤ n1 ∧ n1 ≤ 60) ∧ okM g L R n0 n1 ∧ 0 ≤ g ∧ g ≤ 120 := ⟨d.b0.1.1, d.b1.1.1, d.2.2.2.2.1, d.2.2.2.2.1.1⟩
  have j531 := tl_531 d ht f0 f1 kk y6 y7 hcs hb01 ha
  unfold pL_law_j458
  by_cases c : 7 ≤ cs
  · rw [if_pos (by rw [I_l7, I_le (by omega)]; exact c)]
    exact j531
  rw [if_neg (by rw [I_l7, I_le (by omega)]; exact c)]
  by_cases z : g ≤ 1
  · rw [if_pos (by rw [I_l1, I_le (by omega)]; exact z)]
    exact j531
  rw [if_neg (by rw [I_l1, I_le (by omega)]; exact z), I_l1, I_sub]
  obtain ⟨v, hv, El⟩ := T_low (n := g - 1) (by omega) y7
  obtain ⟨x', L2, R2, E, d', -, e2, hLR⟩ := s_link d (a := v) (by omega)
  have hL : L2 v = L v + L (v + 1) := by
    rw [(hLR v (by omega) (by omega)).1]
    unfold mrg
    rw [if_neg (by omega), if_pos rfl, Sm_s (by omega), Sm_s hv.1]
    omega
  refine obind El (obind (q_g2 d ⟨hv.1, by omega⟩) ?_)
  rw [I_add]
  refine obind (q_g2 d ⟨by omega, by omega⟩) (obind E ((if_pos rfl).trans (obind (q_g2 d' ⟨hv.1, by omega⟩) ?_)))
  rw [I_add, if_pos (by rw [hL])]
  exact kk _ _ _ _ _ _ (lX.mk d' ht e2) f0 f1
theorem tl_422_0 (d : dX x c0 l0 o0 n0 c1 l1 o1 n1 L R g k w0 w1 ph h) (ht : tX x T t) (f0 : f 0 = I w0) (f1 : f 1 = I w1) (kk : tlK xs Ln K e) (y6 y7 : Int32) {cs a v : Int} (hcs : 0 ≤ cs ∧ cs ≤ 12) (ha : 0 < g → 0 ≤ a ∧ a < g) (hv : 0 < n0 → 0 ≤ v ∧ v < n0) : pL_law_j422 xs Ln K x f (I ph) (I h) (I e) y6 y7 (I cs) (I 0) (I n0) (I v) (I g) (I a) = some (1 : Int32) := by
  obtain ⟨hb, hb2, kM, hg⟩ : (0 ≤ n0 ∧ n0 ≤ 60) ∧ (0 ≤ n1 ∧ n1 ≤ 60) ∧ okM g L R n0 n1 ∧ 0 ≤ g ∧ g ≤ 120 := ⟨d.b0.1.1, d.b1.1.1, d.2.2.2.2.1, d.2.2.2.2.1.1⟩
  have j458 := tl_458 d ht f0 f1 kk y6 y7 (b := 0) hcs (by omega) ha
  unfold pL_law_j422
  by_cases c : cs = 3
  · rw [if_pos (by rw [c]; rfl)]
    by_cases z : n0 ≤ 0
    · rw [if_pos (by rw [I_l0, I_le (by omega)]; exact z)]
      exact j458
    · rw [if_neg (by rw [I_l0, I_le (by omega)]; exact z)]
      obtain ⟨u, hu, El⟩ := T_low (n := 250) (by omega) (y6 >>> ((1 : Int32) &&& 31))
      obtain ⟨x', E, l⟩ := T_splits0 d ht (v := v) (u := 1 + u) (hv (by omega)) (by omega)
      refine obind El ?_
      rw [I_l1, I_add]
      exact obind E ((if_neg n10).trans (kk _ _ _ _ _ _ l f0 f1))
  · rw [if_neg (by rw [I_l3, I_eq (by omega)]; exact c)]
    exact j458
theorem tl_398_0 (d : dX x c0 l0 o0 n0 c1 l1 o1 n1 L R g k w0 w1 ph h) (ht : tX x T t) (f0 : f 0 = I w0) (f1 : f 1 = I w1) (kk : tlK xs Ln K e) (y6 y7 : Int32) {cs a v : Int} (hcs : 0 ≤ cs ∧ cs ≤ 12) (ha : 0 < g → 0 ≤ a ∧ a < g) (hv : 0 < n0 → 0 ≤ v ∧ v < n0) : pL_law_j398 xs Ln K x f (I ph) (I h) (I e) y6 y7 (I cs) (I 0) (I n0) (I v) (I g) (I a) = some (1 : Int32) := by
  obtain ⟨hb, hb2, kM, hg⟩ : (0 ≤ n0 ∧ n0 ≤ 60) ∧ (0 ≤ n1 ∧ n1 ≤ 60) ∧ okM g L R n0 n1 ∧ 0 ≤ g ∧ g ≤ 120 := ⟨d.b0.1.1, d.b1.1.1, d.2.2.2.2.1, d.2.2.2.2.1.1⟩
  have j422 := tl_422_0 d ht f0 f1 kk y6 y7 hcs ha hv
  unfold pL_law_j398
  by_cases c : cs = 2
  · rw [if_pos (by rw [c]; rfl)]
    by_cases z : n0 ≤ 0
    · rw [if_pos (by rw [I_l0, I_le (by omega)]; exact z)]
      exact j422
    · rw [if_neg (by rw [I_l0, I_le (by omega)]; exact z)]
      obtain ⟨x', E, l⟩ := T_joins0 d ht (v := v) (hv (by omega))
      exact obind E ((if_neg n10).trans (kk _ _ _ _ _ _ l f0 f1))
  · rw [if_neg (by rw [I_l2, I_eq (by omega)]; exact c)]
    exact j422
theorem tl_202F_0 (d : dX x c0 l0 o0 n0 c1 l1 o1 n1 L R g k w0 w1 ph h) (ht : tX x T t) (f0 : f 0 = I w0) (f1 : f 1 = I w1) (kk : tlK xs Ln K e) (y7 : Int32) {u : Int} (hu : 1 ≤ u ∧ u ≤ 5) (q : at0 c0 n0 (n0 - 1) = 10 ∨ 60 < n0 + u) : pL_law_j202 xs Ln K x f (I ph) (I h) (I e) y7 (I 0) (I g) (I (at0 c0 n0 (n0 - 1))) (I u) (1 : Int32) = some (1 : Int32) := by
  obtain ⟨hb, hb2, kM, hg⟩ : (0 ≤ n0 ∧ n0 ≤ 60) ∧ (0 ≤ n1 ∧ n1 ≤ 60) ∧ okM g L R n0 n1 ∧ 0 ≤ g ∧ g ≤ 120 := ⟨d.b0.1.1, d.b1.1.1, d.2.2.2.2.1, d.2.2.2.2.1.1⟩
  obtain ⟨a, ha, El⟩ := T_low (n := 200) (by omega) (y7 >>> ((4 : Int32) &&& 31))
  have E := s_addF0 d (v := u) (u := 1 + a) (by omega) (by omega) q
  have e1 : (1 : Int32) + I a = I (1 + a) := by rw [I_l1, I_add]
  unfold pL_law_j202
  refine obind El ?_
  rw [e1]
  refine obind E ((if_neg (by decide)).trans ?_)
  unfold pL_law_j238
  refine (if_pos rfl).trans (obind (q_c4 d) ((if_neg (by decide)).trans ?_))
  unfold pL_law_j261
  exact (if_pos rfl).trans (kk _ _ _ _ _ _ (lX.mk d ht rfl) f0 f1)
theorem tl_202G_0 (d : dX x c0 l0 o0 n0 c1 l1 o1 n1 L R g k w0 w1 ph h) (ht : tX x T t) (f0 : f 0 = I w0) (f1 : f 1 = I w1) (kk : tlK xs Ln K e) (y7 : Int32) {u : Int} (hu : 1 ≤ u ∧ u ≤ 5) (q : ¬ (at0 c0 n0 (n0 - 1) = 10 ∨ 60 < n0 + u)) : pL_law_j202 xs Ln K x f (I ph) (I h) (I e) y7 (I 0) (I g) (I (at0 c0 n0 (n0 - 1))) (I u) (0 : Int32) = some (1 : Int32) := by
  obtain ⟨hb, hb2, kM, hg⟩ : (0 ≤ n0 ∧ n0 ≤ 60) ∧ (0 ≤ n1 ∧ n1 ≤ 60) ∧ okM g L R n0 n1 ∧ 0 ≤ g ∧ g ≤ 120 := ⟨d.b0.1.1, d.b1.1.1, d.2.2.2.2.1, d.2.2.2.2.1.1⟩
  obtain ⟨a, ha, El⟩ := T_low (n := 200) (by omega) (y7 >>> ((4 : Int32) &&& 31))
  obtain ⟨x', c2, l2, o2, A2, B2, E, d', -, e2, -⟩ := s_add0 d (v := u) (u := 1 + a) (by omega) (by omega) q
  have e1 : (1 : Int32) + I a = I (1 + a) := by rw [I_l1, I_add]
  have e3 : I (at0 c0 n0 (n0 - 1) + 1) = I (at0 c0 n0 (n0 - 1)) + (1 : Int32) := by rw [I_l1, I_add]
  have e4 : I (g + u) = I g + I u := by rw [I_add]
  unfold pL_law_j202
  refine obind El ?_
  rw [e1]
  refine obind E ((if_pos rfl).trans ?_)
  unfold pL_law_j238
  refine (if_pos e3).trans (obind (q_c4 d') ((if_pos rfl).trans ?_))
  unfold pL_law_j261
  exact (if_pos e4).trans (kk _ _ _ _ _ _ (lX.mk d' ht e2) f0 f1)
theorem tl_155_0 (d : dX x c0 l0 o0 n0 c1 l1 o1 n1 L R g k w0 w1 ph h) (ht : tX x T t) (f0 : f 0 = I w0) (f1 : f 1 = I w1) (kk : tlK xs Ln K e) (y6 y7 : Int32) {cs a v : Int} (hcs : 0 ≤ cs ∧ cs ≤ 12) (ha : 0 < g → 0 ≤ a ∧ a < g) (hv : 0 < n0 → 0 ≤ v ∧ v < n0) : pL_law_j155 xs Ln K x f (I ph) (I h) (I e) y6 y7 (I cs) (I 0) (I n0) (I v) (I g) (I a) = some (1 : Int32) := by
  obtain ⟨hb, hb2, kM, hg⟩ : (0 ≤ n0 ∧ n0 ≤ 60) ∧ (0 ≤ n1 ∧ n1 ≤ 60) ∧ okM g L R n0 n1 ∧ 0 ≤ g ∧ g ≤ 120 := ⟨d.b0.1.1, d.b1.1.1, d.2.2.2.2.1, d.2.2.2.2.1.1⟩
  have j398 := tl_398_0 d ht f0 f1 kk y6 y7 hcs ha hv
  have kB := d.2.2.1
  have hT : 0 ≤ at0 c0 n0 (n0 - 1) ∧ at0 c0 n0 (n0 - 1) ≤ 10 := at0_bd (F := c0) (n := n0) (lo := 0) (hi := 10) (fun i p z => by have := (kB.2 i p z).2.2.1; omega) (by omega) (n0 - 1)
  unfold pL_law_j155
  by_cases cz0 : cs = 0
  · rw [if_pos (by rw [cz0]; rfl)]
    obtain ⟨u, hu, El⟩ := T_low (n := 5) (by omega) y7
    have e1 : (1 : Int32) + I u = I (1 + u) := by rw [I_l1, I_add]
    refine obind (q_c0 d) (obind El ?_)
    rw [e1]
    by_cases q1 : at0 c0 n0 (n0 - 1) = 10
    · rw [if_pos (by rw [q1]; rfl)]
      unfold pL_law_j197
      exact tl_202F_0 d ht f0 f1 kk y7 (u := 1 + u) (by omega) (Or.inl q1)
    · rw [if_neg (by rw [I_l10, I_eq (by omega)]; exact q1), I_add]
      by_cases q2 : n0 + (1 + u) ≤ 60
      · rw [if_pos (by rw [I_l60, I_le (by omega)]; exact q2)]
        exact tl_202G_0 d ht f0 f1 kk y7 (u := 1 + u) (by omega) (by omega)
      · rw [if_neg (by rw [I_l60, I_le (by omega)]; exact q2)]
        unfold pL_law_j197
        exact tl_202F_0 d ht f0 f1 kk y7 (u := 1 + u) (by omega) (Or.inr (by omega))
  rw [if_neg (by rw [I_l0, I_eq (by omega)]; exact cz0)]
  by_cases cz1 : cs = 1
  · rw [if_pos (by rw [cz1]; rfl)]
    by_cases z : n0 ≤ 0
    · rw [if_pos (by rw [I_l0, I_le (by omega)]; exact z)]
      exact j398
    · rw [if_neg (by rw [I_l0, I_le (by omega)]; exact z)]
      have hv2 := hv (by omega)
      obtain ⟨j, hj, -⟩ := ch_of kB hv2
      obtain ⟨u, hu, El⟩ := T_low (n := 600) (by omega) (y6 >>> ((1 : Int32) &&& 31))
      obtain ⟨y, hy, El2⟩ := T_low (n := 11) (by omega) (y7 >>> ((8 : Int32) &&& 31))
      obtain ⟨x', E, d', -, e2⟩ := s_setVerse0 d (v := v) (u := 1 + u) (y := y) hv2 (by omega) (by omega)
      have q2 : sVerse x' (I 0) (I v) (I 2) = some (I (1 + u)) := by
        rw [q_v2 d'.b0 hv2 hj, up_at rfl]
      have q3 : sVerse x' (I 0) (I v) (I 3) = some (I y) := by
        rw [q_v3 d'.b0 hv2 hj, up_at rfl]
      have E2 : sSetVerse x' (I 0) (I v) (I 0) (I 0) = some (I (-2), x') := sE_setVerse2 d' (b := 0) (v := v) (u := 0) (y := 0) (by omega) (by omega) (by omega)
      have E3 : sSetVerse x' (I 0) (I v) (I 1) (I 11) = some (I (-2), x') := sE_setVerse2 d' (b := 0) (v := v) (u := 1) (y := 11) (by omega) (by omega) (by omega)
      have e1 : (1 : Int32) + I u = I (1 + u) := by rw [I_l1, I_add]
      refine obind (q_v2 d.b0 hv2 hj) (obind El (obind El2 ?_))
      rw [e1]
      exact obind E ((if_pos rfl).trans (obind q2 ((if_pos rfl).trans (obind q3 ((if_pos rfl).trans (obind E2 ((if_pos rfl).trans (obind E3 ((if_pos rfl).trans (kk _ _ _ _ _ _ (lX.mk d' ht e2) f0 f1)))))))))) 
  rw [if_neg (by rw [I_l1, I_eq (by omega)]; exact cz1)]
  exact j398
theorem tl_128_0 (d : dX x c0 l0 o0 n0 c1 l1 o1 n1 L R g k w0 w1 ph h) (ht : tX x T t) (f0 : f 0 = I w0) (f1 : f 1 = I w1) (kk : tlK xs Ln K e) (y6 y7 : Int32) {cs v : Int} (hcs : 0 ≤ cs ∧ cs ≤ 12) (hv : 0 < n0 → 0 ≤ v ∧ v < n0) : pL_law_j128 xs Ln K x f (I ph) (I h) (I e) y6 y7 (I cs) (I 0) (I n0) (I v) = some (1 : Int32) := by
  obtain ⟨hb, hb2, kM, hg⟩ : (0 ≤ n0 ∧ n0 ≤ 60) ∧ (0 ≤ n1 ∧ n1 ≤ 60) ∧ okM g L R n0 n1 ∧ 0 ≤ g ∧ g ≤ 120 := ⟨d.b0.1.1, d.b1.1.1, d.2.2.2.2.1, d.2.2.2.2.1.1⟩
  unfold pL_law_j128
  refine obind (q_c4 d) ?_
  by_cases z : g = 0
  · rw [if_pos (by rw [z]; rfl)]
    exact tl_155_0 d ht f0 f1 kk y6 y7 (a := 0) hcs (fun q => absurd q (by omega)) hv
  · rw [if_neg (by rw [I_l0, I_eq (by omega)]; exact z)]
    obtain ⟨a, ha, El⟩ := T_low (n := g) (by omega) (y7 >>> ((3 : Int32) &&& 31))
    exact obind El (tl_155_0 d ht f0 f1 kk y6 y7 (a := a) hcs (fun _ => ha) hv)
theorem tl_88_0 (d : dX x c0 l0 o0 n0 c1 l1 o1 n1 L R g k w0 w1 ph h) (ht : tX x T t) (f0 : f 0 = I w0) (f1 : f 1 = I w1) (kk : tlK xs Ln K e) (y6 y7 : Int32) {cs : Int} (hcs : 0 ≤ cs ∧ cs ≤ 12) (hy : (y6 >>> ((4 : Int32) &&& 31)) &&& (1 : Int32) = I 0) : pL_law_j88 xs Ln K x f (I ph) (I h) (I e) y6 y7 (I cs) = some (1 : Int32) := by
  obtain ⟨hb, hb2, kM, hg⟩ : (0 ≤ n0 ∧ n0 ≤ 60) ∧ (0 ≤ n1 ∧ n1 ≤ 60) ∧ okM g L R n0 n1 ∧ 0 ≤ g ∧ g ≤ 120 := ⟨d.b0.1.1, d.b1.1.1, d.2.2.2.2.1, d.2.2.2.2.1.1⟩
  unfold pL_law_j88
  rw [hy, show (2 : Int32) + I 0 = I 2 by decide]
  refine obind (q_c2 d) ?_
  by_cases z : n0 = 0
  · rw [if_pos (by rw [z]; rfl)]
    exact tl_128_0 d ht f0 f1 kk _ y7 (v := 0) hcs (fun q => absurd q (by omega))
  · rw [if_neg (by rw [I_l0, I_eq (by omega)]; exact z)]
    obtain ⟨v, hv, El⟩ := T_low (n := n0) (by omega) y7
    exact obind El (tl_128_0 d ht f0 f1 kk _ y7 (v := v) hcs (fun _ => hv))
theorem tl_422_1 (d : dX x c0 l0 o0 n0 c1 l1 o1 n1 L R g k w0 w1 ph h) (ht : tX x T t) (f0 : f 0 = I w0) (f1 : f 1 = I w1) (kk : tlK xs Ln K e) (y6 y7 : Int32) {cs a v : Int} (hcs : 0 ≤ cs ∧ cs ≤ 12) (ha : 0 < g → 0 ≤ a ∧ a < g) (hv : 0 < n1 → 0 ≤ v ∧ v < n1) : pL_law_j422 xs Ln K x f (I ph) (I h) (I e) y6 y7 (I cs) (I 1) (I n1) (I v) (I g) (I a) = some (1 : Int32) := by
  obtain ⟨hb, hb2, kM, hg⟩ : (0 ≤ n0 ∧ n0 ≤ 60) ∧ (0 ≤ n1 ∧ n1 ≤ 60) ∧ okM g L R n0 n1 ∧ 0 ≤ g ∧ g ≤ 120 := ⟨d.b0.1.1, d.b1.1.1, d.2.2.2.2.1, d.2.2.2.2.1.1⟩
  have j458 := tl_458 d ht f0 f1 kk y6 y7 (b := 1) hcs (by omega) ha
  unfold pL_law_j422
  by_cases c : cs = 3
  · rw [if_pos (by rw [c]; rfl)]
    by_cases z : n1 ≤ 0
    · rw [if_pos (by rw [I_l0, I_le (by omega)]; exact z)]
      exact j458
    · rw [if_neg (by rw [I_l0, I_le (by omega)]; exact z)]
      obtain ⟨u, hu, El⟩ := T_low (n := 250) (by omega) (y6 >>> ((1 : Int32) &&& 31))
      obtain ⟨x', E, l⟩ := T_splits1 d ht (v := v) (u := 1 + u) (hv (by omega)) (by omega)
      refine obind El ?_
      rw [I_l1, I_add]
      exact obind E ((if_neg n10).trans (kk _ _ _ _ _ _ l f0 f1))
  · rw [if_neg (by rw [I_l3, I_eq (by omega)]; exact c)]
    exact j458
theorem tl_398_1 (d : dX x c0 l0 o0 n0 c1 l1 o1 n1 L R g k w0 w1 ph h) (ht : tX x T t) (f0 : f 0 = I w0) (f1 : f 1 = I w1) (kk : tlK xs Ln K e) (y6 y7 : Int32) {cs a v : Int} (hcs : 0 ≤ cs ∧ cs ≤ 12) (ha : 0 < g → 0 ≤ a ∧ a < g) (hv : 0 < n1 → 0 ≤ v ∧ v < n1) : pL_law_j398 xs Ln K x f (I ph) (I h) (I e) y6 y7 (I cs) (I 1) (I n1) (I v) (I g) (I a) = some (1 : Int32) := by
  obtain ⟨hb, hb2, kM, hg⟩ : (0 ≤ n0 ∧ n0 ≤ 60) ∧ (0 ≤ n1 ∧ n1 ≤ 60) ∧ okM g L R n0 n1 ∧ 0 ≤ g ∧ g ≤ 120 := ⟨d.b0.1.1, d.b1.1.1, d.2.2.2.2.1, d.2.2.2.2.1.1⟩
  have j422 := tl_422_1 d ht f0 f1 kk y6 y7 hcs ha hv
  unfold pL_law_j398
  by_cases c : cs = 2
  · rw [if_pos (by rw [c]; rfl)]
    by_cases z : n1 ≤ 0
    · rw [if_pos (by rw [I_l0, I_le (by omega)]; exact z)]
      exact j422
    · rw [if_neg (by rw [I_l0, I_le (by omega)]; exact z)]
      obtain ⟨x', E, l⟩ := T_joins1 d ht (v := v) (hv (by omega))
      exact obind E ((if_neg n10).trans (kk _ _ _ _ _ _ l f0 f1))
  · rw [if_neg (by rw [I_l2, I_eq (by omega)]; exact c)]
    exact j422
theorem tl_202F_1 (d : dX x c0 l0 o0 n0 c1 l1 o1 n1 L R g k w0 w1 ph h) (ht : tX x T t) (f0 : f 0 = I w0) (f1 : f 1 = I w1) (kk : tlK xs Ln K e) (y7 : Int32) {u : Int} (hu : 1 ≤ u ∧ u ≤ 5) (q : at0 c1 n1 (n1 - 1) = 10 ∨ 60 < n1 + u) : pL_law_j202 xs Ln K x f (I ph) (I h) (I e) y7 (I 1) (I g) (I (at0 c1 n1 (n1 - 1))) (I u) (1 : Int32) = some (1 : Int32) := by
  obtain ⟨hb, hb2, kM, hg⟩ : (0 ≤ n0 ∧ n0 ≤ 60) ∧ (0 ≤ n1 ∧ n1 ≤ 60) ∧ okM g L R n0 n1 ∧ 0 ≤ g ∧ g ≤ 120 := ⟨d.b0.1.1, d.b1.1.1, d.2.2.2.2.1, d.2.2.2.2.1.1⟩
  obtain ⟨a, ha, El⟩ := T_low (n := 200) (by omega) (y7 >>> ((4 : Int32) &&& 31))
  have E := s_addF1 d (v := u) (u := 1 + a) (by omega) (by omega) q
  have e1 : (1 : Int32) + I a = I (1 + a) := by rw [I_l1, I_add]
  unfold pL_law_j202
  refine obind El ?_
  rw [e1]
  refine obind E ((if_neg (by decide)).trans ?_)
  unfold pL_law_j238
  refine (if_pos rfl).trans (obind (q_c4 d) ((if_neg (by decide)).trans ?_))
  unfold pL_law_j261
  exact (if_pos rfl).trans (kk _ _ _ _ _ _ (lX.mk d ht rfl) f0 f1)
theorem tl_202G_1 (d : dX x c0 l0 o0 n0 c1 l1 o1 n1 L R g k w0 w1 ph h) (ht : tX x T t) (f0 : f 0 = I w0) (f1 : f 1 = I w1) (kk : tlK xs Ln K e) (y7 : Int32) {u : Int} (hu : 1 ≤ u ∧ u ≤ 5) (q : ¬ (at0 c1 n1 (n1 - 1) = 10 ∨ 60 < n1 + u)) : pL_law_j202 xs Ln K x f (I ph) (I h) (I e) y7 (I 1) (I g) (I (at0 c1 n1 (n1 - 1))) (I u) (0 : Int32) = some (1 : Int32) := by
  obtain ⟨hb, hb2, kM, hg⟩ : (0 ≤ n0 ∧ n0 ≤ 60) ∧ (0 ≤ n1 ∧ n1 ≤ 60) ∧ okM g L R n0 n1 ∧ 0 ≤ g ∧ g ≤ 120 := ⟨d.b0.1.1, d.b1.1.1, d.2.2.2.2.1, d.2.2.2.2.1.1⟩
  obtain ⟨a, ha, El⟩ := T_low (n := 200) (by omega) (y7 >>> ((4 : Int32) &&& 31))
  obtain ⟨x', c2, l2, o2, A2, B2, E, d', -, e2, -⟩ := s_add1 d (v := u) (u := 1 + a) (by omega) (by omega) q
  have e1 : (1 : Int32) + I a = I (1 + a) := by rw [I_l1, I_add]
  have e3 : I (at0 c1 n1 (n1 - 1) + 1) = I (at0 c1 n1 (n1 - 1)) + (1 : Int32) := by rw [I_l1, I_add]
  have e4 : I (g + u) = I g + I u := by rw [I_add]
  unfold pL_law_j202
  refine obind El ?_
  rw [e1]
  refine obind E ((if_pos rfl).trans ?_)
  unfold pL_law_j238
  refine (if_pos e3).trans (obind (q_c4 d') ((if_pos rfl).trans ?_))
  unfold pL_law_j261
  exact (if_pos e4).trans (kk _ _ _ _ _ _ (lX.mk d' ht e2) f0 f1)
theorem tl_155_1 (d : dX x c0 l0 o0 n0 c1 l1 o1 n1 L R g k w0 w1 ph h) (ht : tX x T t) (f0 : f 0 = I w0) (f1 : f 1 = I w1) (kk : tlK xs Ln K e) (y6 y7 : Int32) {cs a v : Int} (hcs : 0 ≤ cs ∧ cs ≤ 12) (ha : 0 < g → 0 ≤ a ∧ a < g) (hv : 0 < n1 → 0 ≤ v ∧ v < n1) : pL_law_j155 xs Ln K x f (I ph) (I h) (I e) y6 y7 (I cs) (I 1) (I n1) (I v) (I g) (I a) = some (1 : Int32) := by
  obtain ⟨hb, hb2, kM, hg⟩ : (0 ≤ n0 ∧ n0 ≤ 60) ∧ (0 ≤ n1 ∧ n1 ≤ 60) ∧ okM g L R n0 n1 ∧ 0 ≤ g ∧ g ≤ 120 := ⟨d.b0.1.1, d.b1.1.1, d.2.2.2.2.1, d.2.2.2.2.1.1⟩
  have j398 := tl_398_1 d ht f0 f1 kk y6 y7 hcs ha hv
  have kB := d.2.2.2.1
  have hT : 0 ≤ at0 c1 n1 (n1 - 1) ∧ at0 c1 n1 (n1 - 1) ≤ 10 := at0_bd (F := c1) (n := n1) (lo := 0) (hi := 10) (fun i p z => by have := (kB.2 i p z).2.2.1; omega) (by omega) (n1 - 1)
  unfold pL_law_j155
  by_cases cz0 : cs = 0
  · rw [if_pos (by rw [cz0]; rfl)]
    obtain ⟨u, hu, El⟩ := T_low (n := 5) (by omega) y7
    have e1 : (1 : Int32) + I u = I (1 + u) := by rw [I_l1, I_add]
    refine obind (q_c1 d) (obind El ?_)
    rw [e1]
    by_cases q1 : at0 c1 n1 (n1 - 1) = 10
    · rw [if_pos (by rw [q1]; rfl)]
      unfold pL_law_j197
      exact tl_202F_1 d ht f0 f1 kk y7 (u := 1 + u) (by omega) (Or.inl q1)
    · rw [if_neg (by rw [I_l10, I_eq (by omega)]; exact q1), I_add]
      by_cases q2 : n1 + (1 + u) ≤ 60
      · rw [if_pos (by rw [I_l60, I_le (by omega)]; exact q2)]
        exact tl_202G_1 d ht f0 f1 kk y7 (u := 1 + u) (by omega) (by omega)
      · rw [if_neg (by rw [I_l60, I_le (by omega)]; exact q2)]
        unfold pL_law_j197
        exact tl_202F_1 d ht f0 f1 kk y7 (u := 1 + u) (by omega) (Or.inr (by omega))
  rw [if_neg (by rw [I_l0, I_eq (by omega)]; exact cz0)]
  by_cases cz1 : cs = 1
  · rw [if_pos (by rw [cz1]; rfl)]
    by_cases z : n1 ≤ 0
    · rw [if_pos (by rw [I_l0, I_le (by omega)]; exact z)]
      exact j398
    · rw [if_neg (by rw [I_l0, I_le (by omega)]; exact z)]
      have hv2 := hv (by omega)
      obtain ⟨j, hj, -⟩ := ch_of kB hv2
      obtain ⟨u, hu, El⟩ := T_low (n := 600) (by omega) (y6 >>> ((1 : Int32) &&& 31))
      obtain ⟨y, hy, El2⟩ := T_low (n := 11) (by omega) (y7 >>> ((8 : Int32) &&& 31))
      obtain ⟨x', E, d', -, e2⟩ := s_setVerse1 d (v := v) (u := 1 + u) (y := y) hv2 (by omega) (by omega)
      have q2 : sVerse x' (I 1) (I v) (I 2) = some (I (1 + u)) := by
        rw [q_v2 d'.b1 hv2 hj, up_at rfl]
      have q3 : sVerse x' (I 1) (I v) (I 3) = some (I y) := by
        rw [q_v3 d'.b1 hv2 hj, up_at rfl]
      have E2 : sSetVerse x' (I 1) (I v) (I 0) (I 0) = some (I (-2), x') := sE_setVerse2 d' (b := 1) (v := v) (u := 0) (y := 0) (by omega) (by omega) (by omega)
      have E3 : sSetVerse x' (I 1) (I v) (I 1) (I 11) = some (I (-2), x') := sE_setVerse2 d' (b := 1) (v := v) (u := 1) (y := 11) (by omega) (by omega) (by omega)
      have e1 : (1 : Int32) + I u = I (1 + u) := by rw [I_l1, I_add]
      refine obind (q_v2 d.b1 hv2 hj) (obind El (obind El2 ?_))
      rw [e1]
      exact obind E ((if_pos rfl).trans (obind q2 ((if_pos rfl).trans (obind q3 ((if_pos rfl).trans (obind E2 ((if_pos rfl).trans (obind E3 ((if_pos rfl).trans (kk _ _ _ _ _ _ (lX.mk d' ht e2) f0 f1)))))))))) 
  rw [if_neg (by rw [I_l1, I_eq (by omega)]; exact cz1)]
  exact j398
theorem tl_128_1 (d : dX x c0 l0 o0 n0 c1 l1 o1 n1 L R g k w0 w1 ph h) (ht : tX x T t) (f0 : f 0 = I w0) (f1 : f 1 = I w1) (kk : tlK xs Ln K e) (y6 y7 : Int32) {cs v : Int} (hcs : 0 ≤ cs ∧ cs ≤ 12) (hv : 0 < n1 → 0 ≤ v ∧ v < n1) : pL_law_j128 xs Ln K x f (I ph) (I h) (I e) y6 y7 (I cs) (I 1) (I n1) (I v) = some (1 : Int32) := by
  obtain ⟨hb, hb2, kM, hg⟩ : (0 ≤ n0 ∧ n0 ≤ 60) ∧ (0 ≤ n1 ∧ n1 ≤ 60) ∧ okM g L R n0 n1 ∧ 0 ≤ g ∧ g ≤ 120 := ⟨d.b0.1.1, d.b1.1.1, d.2.2.2.2.1, d.2.2.2.2.1.1⟩
  unfold pL_law_j128
  refine obind (q_c4 d) ?_
  by_cases z : g = 0
  · rw [if_pos (by rw [z]; rfl)]
    exact tl_155_1 d ht f0 f1 kk y6 y7 (a := 0) hcs (fun q => absurd q (by omega)) hv
  · rw [if_neg (by rw [I_l0, I_eq (by omega)]; exact z)]
    obtain ⟨a, ha, El⟩ := T_low (n := g) (by omega) (y7 >>> ((3 : Int32) &&& 31))
    exact obind El (tl_155_1 d ht f0 f1 kk y6 y7 (a := a) hcs (fun _ => ha) hv)
theorem tl_88_1 (d : dX x c0 l0 o0 n0 c1 l1 o1 n1 L R g k w0 w1 ph h) (ht : tX x T t) (f0 : f 0 = I w0) (f1 : f 1 = I w1) (kk : tlK xs Ln K e) (y6 y7 : Int32) {cs : Int} (hcs : 0 ≤ cs ∧ cs ≤ 12) (hy : (y6 >>> ((4 : Int32) &&& 31)) &&& (1 : Int32) = I 1) : pL_law_j88 xs Ln K x f (I ph) (I h) (I e) y6 y7 (I cs) = some (1 : Int32) := by
  obtain ⟨hb, hb2, kM, hg⟩ : (0 ≤ n0 ∧ n0 ≤ 60) ∧ (0 ≤ n1 ∧ n1 ≤ 60) ∧ okM g L R n0 n1 ∧ 0 ≤ g ∧ g ≤ 120 := ⟨d.b0.1.1, d.b1.1.1, d.2.2.2.2.1, d.2.2.2.2.1.1⟩
  unfold pL_law_j88
  rw [hy, show (2 : Int32) + I 1 = I 3 by decide]
  refine obind (q_c3 d) ?_
  by_cases z : n1 = 0
  · rw [if_pos (by rw [z]; rfl)]
    exact tl_128_1 d ht f0 f1 kk _ y7 (v := 0) hcs (fun q => absurd q (by omega))
  · rw [if_neg (by rw [I_l0, I_eq (by omega)]; exact z)]
    obtain ⟨v, hv, El⟩ := T_low (n := n1) (by omega) y7
    exact obind El (tl_128_1 d ht f0 f1 kk _ y7 (v := v) hcs (fun _ => hv))
end TLW
theorem and1 (x : Int32) : x &&& (1 : Int32) = I 0 ∨ x &&& (1 : Int32) = I 1 := by
  have h : (x.toBitVec &&& 1#32).toNat = x.toBitVec.toNat % 2 := by
    rw [BitVec.toNat_and]
    exact Nat.and_one_is_mod _
  have h2 : x.toBitVec.toNat % 2 = 0 ∨ x.toBitVec.toNat % 2 = 1 := by omega
  rcases h2 with e | e
  · refine Or.inl (Int32.toBitVec_inj.mp (BitVec.eq_of_toNat_eq ?_))
    show (x.toBitVec &&& 1#32).toNat = 0
    rw [h, e]
  · refine Or.inr (Int32.toBitVec_inj.mp (BitVec.eq_of_toNat_eq ?_))
    show (x.toBitVec &&& 1#32).toNat = 1
    rw [h, e]
theorem pCell_ok {xs : Nat → Int32} {Ln : Nat} {i : Int} (h : 0 ≤ i ∧ i ≤ 1000) : ∃ q, pCell xs Ln (I i) = some q := ⟨_, if_neg (by rw [I_l0, I_lt (by omega)]; omega)⟩
theorem tl_42 {xs : Nat → Int32} {Ln : Nat} : ∀ (n : Nat) (e : Int) (x : Sg) (f : Nat → Int32) (w0 w1 ph h : Int), 0 ≤ e → e ≤ 30 → 30 - e < n → lX x w0 w1 ph h → f 0 = I w0 → f 1 = I w1 → pL_law_L42 xs Ln n x f (I ph) (I h) (I e) = some (1 : Int32) := by
  intro n
  induction n with
  | zero => intro e x f w0 w1 ph h a b c; omega
  | succ n ih =>
    intro e x f w0 w1 ph h h0 h1 h2 lx f0 f1
    show pL_law_bL42 xs Ln (pL_law_L42 xs Ln n) x f (I ph) (I h) (I e) = some (1 : Int32)
    unfold pL_law_bL42
    by_cases q : e = 30
    · obtain ⟨⟨c0, l0, o0, n0, c1, l1, o1, n1, L, R, g, k, d⟩, -⟩ := lx
      rw [if_pos (by rw [q]; decide)]
      exact obind (T_errors d) rfl
    · rw [if_neg (by rw [show (30 : Int32) = I 30 from rfl, I_le (by omega)]; omega)]
      have kk : tlK xs Ln (pL_law_L42 xs Ln n) e := fun x' f' w0' w1' ph' h' l' a b => tl_800 l' a b (ih (e + 1) x' f' w0' w1' ph' h' (by omega) (by omega) (by omega) l' a b)
      obtain ⟨⟨c0, l0, o0, n0, c1, l1, o1, n1, L, R, g, k, d⟩, T, t, ht⟩ := lx
      rw [I_l2, I_mul, I_l1, I_add]
      obtain ⟨q6, E6⟩ := pCell_ok (xs := xs) (Ln := Ln) (i := 2 * e) (by omega)
      obtain ⟨q8, E8⟩ := pCell_ok (xs := xs) (Ln := Ln) (i := 2 * e + 1) (by omega)
      refine obind E6 (obind E8 ?_)
      have j88 : ∀ cs : Int, 0 ≤ cs ∧ cs ≤ 12 → pL_law_j88 xs Ln (pL_law_L42 xs Ln n) x f (I ph) (I h) (I e) q6 q8 (I cs) = some (1 : Int32) := fun cs hcs => by
        rcases and1 (q6 >>> ((4 : Int32) &&& 31)) with z | z
        · exact tl_88_0 d ht f0 f1 kk q6 q8 hcs z
        · exact tl_88_1 d ht f0 f1 kk q6 q8 hcs z
      by_cases q3 : 3 ≤ e
      · rw [if_pos (by rw [I_l3, I_le (by omega)]; exact q3)]
        obtain ⟨cs, hcs, El⟩ := T_low (n := 13) (by omega) q6
        exact obind El (j88 cs (by omega))
      · rw [if_neg (by rw [I_l3, I_le (by omega)]; exact q3)]
        exact j88 0 (by omega)
theorem lw_d0 : dX lw_x0 (fun _ => 0) (fun _ => 0) (fun _ => 0) 0 (fun _ => 0) (fun _ => 0) (fun _ => 0) 0 (fun _ => 0) (fun _ => 0) 0 0 40 40 40 2 := by
  refine ⟨rfl, rfl, ⟨by omega, fun i a b => by omega⟩, ⟨by omega, fun i a b => by omega⟩, ⟨by omega, fun i a b => by omega, Sm_0 _, Sm_0 _⟩, ⟨rfl, by omega, fun h => by omega, fun h => by omega, fun h => by omega, fun h => by omega, fun h => by omega⟩, by omega, by omega, by omega, by omega⟩
theorem T_law {xs : Nat → Int32} {Ln : Nat} (hL : Ln ≤ 260) : pL_law xs Ln lw_x0 = some (1 : Int32) := by
  have ht : tX lw_x0 (fun _ => 0) 0 := ⟨rfl, by omega, fun i a b => by omega⟩
  unfold pL_law
  refine (if_pos (by decide)).trans ((if_pos (by decide)).trans (obind (s_undo0 lw_d0 rfl) ((if_pos rfl).trans ?_)))
  exact tl_42 31 0 lw_x0 _ 40 40 40 2 (by omega) (by omega) (by omega) (lX.mk lw_d0 ht rfl) rfl rfl
