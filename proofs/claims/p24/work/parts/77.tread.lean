-- the law types, and reads references
def sx (x x' : Sg) : Prop := x'.1 = x.1 ∧ x'.2.1 = x.2.1 ∧ x'.2.2.2 = x.2.2.2
theorem sx.rf (x : Sg) : sx x x := ⟨rfl, rfl, rfl⟩
theorem sx.tr {x y z : Sg} (h1 : sx x y) (h2 : sx y z) : sx x z := ⟨h2.1.trans h1.1, h2.2.1.trans h1.2.1, h2.2.2.trans h1.2.2⟩
theorem dX.sx {x x' : Sg} {c0 l0 o0 : Int → Int} {n0 : Int} {c1 l1 o1 : Int → Int} {n1 : Int} {L R : Int → Int} {g k w0 w1 ph h : Int} (d : dX x c0 l0 o0 n0 c1 l1 o1 n1 L R g k w0 w1 ph h) (e : sx x x') : dX x' c0 l0 o0 n0 c1 l1 o1 n1 L R g k w0 w1 ph h := ⟨by rw [e.1]; exact d.1, by rw [e.2.2]; exact d.2.1, d.2.2.1, d.2.2.2.1, d.2.2.2.2.1, by rw [e.2.1]; exact d.2.2.2.2.2.1, d.2.2.2.2.2.2⟩
-- a sign typed: what lies ahead stays
def tY2 (T T' : Int → Int) (t : Int) : Prop := ∀ i, i < t → T' i = T i
theorem T_type {x : Sg} {T : Int → Int} {t y : Int} (d : tX x T t) (ht : t < 80) (hy : 0 ≤ y ∧ y ≤ 65535) : ∃ (x' : Sg) (T' : Int → Int), sType x (I y) = some (I (t + 1), x') ∧ tX x' T' (t + 1) ∧ sx x x' ∧ T' t = y ∧ tY2 T T' t := by
  obtain ⟨E, d'⟩ := s_type d ht hy
  exact ⟨_, _, E, d', ⟨rfl, rfl, rfl⟩, up_at rfl, fun i hi => up_ne (by omega)⟩
theorem T_clear {x : Sg} {T : Int → Int} {t : Int} (d : tX x T t) : ∃ x' : Sg, sClearText x = some (I t, x') ∧ tX x' T 0 ∧ sx x x' := by
  refine ⟨_, s_clearText d, ⟨rfl, by omega, fun i a b => by omega⟩, ⟨rfl, rfl, rfl⟩⟩
def dg (T : Int → Int) (p p2 v : Int) : Prop := (v ≤ 9 ∧ p2 = p + 1 ∧ T p = 48 + v) ∨ (10 ≤ v ∧ p2 = p + 2 ∧ T p = 48 + v / 10 ∧ T (p + 1) = 48 + v % 10)
theorem dg.lo {T T' : Int → Int} {p p2 v : Int} (h : dg T p p2 v) (e : tY2 T T' p2) : dg T' p p2 v := by
  rcases h with ⟨a, b, c⟩ | ⟨a, b, c, d⟩
  · exact Or.inl ⟨a, b, by rw [e p (by omega)]; exact c⟩
  · exact Or.inr ⟨a, b, by rw [e p (by omega)]; exact c, by rw [e (p + 1) (by omega)]; exact d⟩
theorem dg.bd {T : Int → Int} {p p2 v : Int} (h : dg T p p2 v) : p < p2 ∧ p2 ≤ p + 2 := by
  rcases h with ⟨a, b, c⟩ | ⟨a, b, c, d⟩ <;> omega
theorem dg.nu {T : Int → Int} {n p p2 v : Int} (h : dg T p p2 v) (hv : 1 ≤ v ∧ v ≤ 99) (hp : 0 ≤ p) (hn : p2 ≤ n) (he : p2 = n ∨ ¬ (48 ≤ T p2 ∧ T p2 ≤ 57)) : nuF T n p p2 (-1) v := by
  have nd : ¬ dgt T n p2 := by
    intro q
    have q1 := dgt_in q
    unfold dgt at q
    rw [at0_in q1] at q
    rcases he with he | he
    · omega
    · exact he q
  rcases h with ⟨a, b, c⟩ | ⟨a, b, c, d⟩
  · refine Or.inr (Or.inl ⟨?_, by rw [← b]; exact nd, b, rfl, by omega⟩)
    rw [at0_in (by omega), c]
    omega
  · refine Or.inr (Or.inr (Or.inl ⟨?_, ?_, by rw [← b]; exact nd, b, rfl, by omega⟩))
    · rw [at0_in (by omega), c]
      omega
    · unfold dgt
      rw [at0_in (by omega), d]
      omega
theorem kC_dig {d : Int} (h : 0 ≤ d ∧ d ≤ 9) : kC (I 48 + I d) = I (48 + d) := by
  have c : d = 0 ∨ d = 1 ∨ d = 2 ∨ d = 3 ∨ d = 4 ∨ d = 5 ∨ d = 6 ∨ d = 7 ∨ d = 8 ∨ d = 9 := by omega
  rcases c with rfl | rfl | rfl | rfl | rfl | rfl | rfl | rfl | rfl | rfl <;> decide
theorem T_digits {x : Sg} {T : Int → Int} {t v : Int} (d : tX x T t) (ht : t + 2 ≤ 80) (hv : 1 ≤ v ∧ v ≤ 99) : ∃ (x' : Sg) (T' : Int → Int) (t' : Int), pL_digits x (I v) = some (I t', x') ∧ tX x' T' t' ∧ sx x x' ∧ dg T' t t' v ∧ tY2 T T' t := by
  have hm : I v - I v / I 10 * I 10 = I (v % 10) := by
    rw [I_div (by omega), I_mul, I_sub, show v - v / 10 * 10 = v % 10 by omega]
  have j21 : ∀ {y : Sg} {U : Int → Int} {u : Int}, tX y U u → u < 80 → ∃ (x' : Sg) (T' : Int → Int), pL_digits_j21 y (I v) = some (I (u + 1), x') ∧ tX x' T' (u + 1) ∧ sx y x' ∧ T' u = 48 + v % 10 ∧ tY2 U T' u := by
    intro y U u hy hu
    obtain ⟨x', T', E, h1, h2, h3, h4⟩ := T_type hy hu (y := 48 + v % 10) (by omega)
    refine ⟨x', T', ?_, h1, h2, h3, h4⟩
    unfold pL_digits_j21
    rw [if_pos (by decide), I_l10, hm, I_l48, kC_dig (by omega)]
    exact obind E rfl
  unfold pL_digits
  by_cases z : v ≤ 9
  · obtain ⟨x', T', E, h1, h2, h3, h4⟩ := j21 d (by omega)
    refine ⟨x', T', t + 1, ?_, h1, h2, Or.inl ⟨z, rfl, by rw [h3]; omega⟩, h4⟩
    rw [if_pos (by rw [I_l9, I_le (by omega)]; exact z)]
    exact E
  · obtain ⟨x1, T1, E1, a1, a2, a3, a4⟩ := T_type d (y := 48 + v / 10) (by omega) (by omega)
    obtain ⟨x', T', E, h1, h2, h3, h4⟩ := j21 a1 (by omega)
    rw [show t + 1 + 1 = t + 2 by omega] at E h1
    refine ⟨x', T', t + 2, ?_, h1, a2.tr h2, Or.inr ⟨by omega, rfl, by rw [h4 t (by omega)]; exact a3, h3⟩, fun i hi => by rw [h4 i (by omega)]; exact a4 i hi⟩
    rw [if_neg (by rw [I_l9, I_le (by omega)]; exact z), if_pos (by decide), I_l10, I_div (by omega), I_l48, kC_dig (by omega)]
    exact obind E1 E
-- references read
section RD
variable {T c l o : Int → Int} {n N z p j v : Int}
theorem rd_b (hn : 0 ≤ n ∧ n ≤ 80) (hS : ∀ i, 0 ≤ i → i < n → 0 ≤ T i ∧ T i ≤ 65535) (hB : okB N c l o) (h1 : nuF T n 0 p (-1) z) (hz : 1 ≤ z ∧ z ≤ at0 c N (N - 1)) : pX6_read (cz T) (I n) (cz c) (I N) = r6b (cz T) (I n) (cz c) (I N) (I z) (I p) (I (-1)) := by
  have hT := at0_bd (F := c) (n := N) (lo := 0) (hi := 10) (fun i p z => by have := (hB.2 i p z).2.2.1; omega) (by omega) (N - 1)
  rw [r6_read]
  have e0 : pX8_restart = some (I 0, I (-1), I 0, I 0) := rfl
  have e1 := f8_readNumber (S := T) (n := n) (p := 0) ⟨hn, by omega⟩ hS h1
  have e2 := f6_chap (c := c) (nb := N) (f := -1) (v := z) (ns := 0) (least := 1) hB.1 hT (by omega) (by omega) (by omega)
  rw [if_pos hz] at e2
  exact obind e0 (obind e1 (obind e2 rfl))
theorem rd_c (hn : 0 ≤ n ∧ n ≤ 80) (hS : ∀ i, 0 ≤ i → i < n → 0 ≤ T i ∧ T i ≤ 65535) (hB : okB N c l o) {p2 : Int} (hp : 0 ≤ p ∧ p < n) (h0 : T p = 58) (h1 : nuF T n (p + 1) p2 (-1) v) (hj : isF c z N j) (hz : 1 ≤ z ∧ z ≤ 10) (hv : 1 ≤ v ∧ v ≤ cnt c z N) : r6b (cz T) (I n) (cz c) (I N) (I z) (I p) (I (-1)) = r6c (cz T) (I n) (cz c) (I N) (I z) (I (j + v - 1)) (I p2) (I (-1)) (I v) (I (p + 1)) := by
  have hN := hB.1
  have hj1 := hj.1
  have hr := okB_run hB hj hv
  have e0 := f8_skipY (S := T) (n := n) (p := p) (c := 58) ⟨hn, hp, by omega⟩ hS h0
  have e1 := f8_readNumber (S := T) (n := n) (p := p + 1) ⟨hn, by omega⟩ hS h1
  have e2 := f0_findY (n := N) (v := v) ⟨hN, hj1⟩ (x := z) (by omega) (okB_c2 hB) hj.2.1 hj.2.2 hv
  have e3 := f6_verse (nb := N) (f := -1) (v := v) (ns := p + 1) (x := z) (r := j + v - 1) (least := 0) (c := c) (by omega) (by omega) (by omega) e2
  rw [if_pos (by omega)] at e3
  exact obind e0 (obind e1 (obind e3 rfl))
theorem rd_end (hn : 0 ≤ n ∧ n ≤ 80) {a0 a1 a4 a5 : Int32} : pX6_read_j66 (cz T) (I n) (cz c) (I N) a0 a1 (I n) (I (-1)) a4 a5 = some (I (-1), a0, a1, I n, I (-1), a4, a5) := by
  have e : pX8_goesOn (I n) (I n) (I (-1)) = some (I 0) := by rw [f8_goesOn (by omega), if_neg (by omega)]
  exact obind e (if_pos rfl)
theorem rd_c1 (hn : 0 ≤ n ∧ n ≤ 80) {x first : Int} {a b : Int32} : r6c (cz T) (I n) (cz c) (I N) (I x) (I first) (I n) (I (-1)) a b = some (I (-1), I first, I first, I n, I (-1), a, b) := by
  have e : pX8_goesOn (I n) (I n) (I (-1)) = some (I 0) := by rw [f8_goesOn (by omega), if_neg (by omega)]
  exact obind e ((if_pos rfl).trans (rd_end hn))
theorem rd_c2 (hn : 0 ≤ n ∧ n ≤ 80) (hS : ∀ i, 0 ≤ i → i < n → 0 ≤ T i ∧ T i ≤ 65535) {x first : Int} {a b : Int32} (hp : 0 ≤ p ∧ p < n) (h0 : T p = 45) : r6c (cz T) (I n) (cz c) (I N) (I x) (I first) (I p) (I (-1)) a b = r6d (cz T) (I n) (cz c) (I N) (I x) (I first) (I (p + 1)) (I (-1)) := by
  have e : pX8_goesOn (I n) (I p) (I (-1)) = some (I 1) := by rw [f8_goesOn (by omega), if_pos (by omega)]
  have e0 := f8_skipY (S := T) (n := n) (p := p) (c := 45) ⟨hn, hp, by omega⟩ hS h0
  exact obind e ((if_neg (by decide)).trans (obind e0 rfl))
-- nothing stands where a number is due
theorem rd_nu0 : nuF T n n n n 0 := Or.inl ⟨by rw [at0_out (by omega)]; omega, rfl, rfl, rfl⟩
theorem rd_dN (hn : 0 ≤ n ∧ n ≤ 80) (hS : ∀ i, 0 ≤ i → i < n → 0 ≤ T i ∧ T i ≤ 65535) (hB : okB N c l o) {x first : Int} (hx : -1000 ≤ x ∧ x ≤ 1000) (hl : -1000 ≤ first ∧ first ≤ 1000) : ok6 (r6d (cz T) (I n) (cz c) (I N) (I x) (I first) (I n) (I (-1))) n := by
  have e1 := f8_readNumber (S := T) (n := n) (p := n) ⟨hn, by omega⟩ hS rd_nu0
  have e2 : pX8_stands (cz T) (I n) (I n) (I n) (58 : Int32) = some (I 0) := f8_standsB (c := 58) (by omega) hS
  obtain ⟨r, e3⟩ := f6_j35B (T := T) (n := n) (f := n) (v := 0) (p := n) (ns := n) (x := x) (least := first) (u := I first) hB (by omega) (by omega) hl
  have e4 : pX6_readLast (I first) (I first) (cz T) (I n) (I n) (I (-1)) (cz c) (I N) (I x) = some (I r, I n, I n, I 0, I n) := obind e1 (obind e2 ((if_pos rfl).trans e3))
  exact ⟨_, _, _, _, _, _, obind e4 (f6_j66B hn (by omega) (by omega))⟩
theorem rd_bF (hn : 0 ≤ n ∧ n ≤ 80) (hS : ∀ i, 0 ≤ i → i < n → 0 ≤ T i ∧ T i ≤ 65535) (hB : okB N c l o) (hp : 0 ≤ p ∧ p < n) (h0 : T p = 58) (h1 : ¬ (49 ≤ at0 T n (p + 1) ∧ at0 T n (p + 1) ≤ 57)) (hz : 1 ≤ z ∧ z ≤ 10) : ok6 (r6b (cz T) (I n) (cz c) (I N) (I z) (I p) (I (-1))) (p + 1) := by
  have hN := hB.1
  have e0 := f8_skipY (S := T) (n := n) (p := p) (c := 58) ⟨hn, hp, by omega⟩ hS h0
  have e1 := f8_readNumber (S := T) (n := n) (p := p + 1) (p2 := p + 1) (f2 := p + 1) (v := 0) ⟨hn, by omega⟩ hS (Or.inl ⟨h1, rfl, rfl, rfl⟩)
  obtain ⟨r, hr, e⟩ := f0_findG hB (x := z) (v := 0) (by omega)
  have e2 := f6_verse (ns := p + 1) hr (f := p + 1) (by omega) (least := 0) (by omega) e
  rw [flt_2 (by omega), ite_self] at e2
  obtain ⟨a0, a1, x2, x3, x4, x5, e3⟩ := r6cB (S := T) (S2 := T) (a := I 0) (b := I (p + 1)) (first := r) (p := p + 1) (f := p + 1) (x := z) (n := n) hB ⟨hn, fun i a b => ⟨rfl, hS i a b⟩⟩ (by omega) (by omega) (by omega)
  exact ⟨a0, a1, x2, x3, x4, x5, obind e0 (obind e1 (obind e2 e3))⟩
theorem rd_d (hn : 0 ≤ n ∧ n ≤ 80) (hS : ∀ i, 0 ≤ i → i < n → 0 ≤ T i ∧ T i ≤ 65535) (hB : okB N c l o) {x first q z2 v2 j2 : Int} (hp : 0 ≤ p ∧ p < q ∧ q < n) (h1 : nuF T n p q (-1) z2) (h0 : T q = 58) (h2 : nuF T n (q + 1) n (-1) v2) (hx : 1 ≤ x ∧ x ≤ z2 ∧ z2 ≤ at0 c N (N - 1)) (hj : isF c z2 N j2) (hv : 1 ≤ v2 ∧ v2 ≤ cnt c z2 N) (hf : 0 ≤ first ∧ first ≤ j2 + v2 - 1) : r6d (cz T) (I n) (cz c) (I N) (I x) (I first) (I p) (I (-1)) = some (I (-1), I first, I (j2 + v2 - 1), I n, I (-1), I v2, I (q + 1)) := by
  have hT := at0_bd (F := c) (n := N) (lo := 0) (hi := 10) (fun i p z => by have := (hB.2 i p z).2.2.1; omega) (by omega) (N - 1)
  have hN := hB.1
  have hj1 := hj.1
  have hr := okB_run hB hj hv
  have e1 := f8_readNumber (S := T) (n := n) (p := p) ⟨hn, by omega⟩ hS h1
  have e2 : pX8_stands (cz T) (I n) (I q) (I (-1)) (58 : Int32) = some (I 1) := by
    have := f8_stands (S := T) (n := n) (p := q) (f := -1) (c := 58) ⟨hn, by omega, by omega, by omega⟩ hS
    rw [if_pos ⟨rfl, by omega, h0⟩] at this
    exact this
  have e3 := f6_chap (c := c) (nb := N) (f := -1) (v := z2) (ns := p) (least := x) hB.1 hT (by omega) (by omega) (by omega)
  rw [if_pos (by omega)] at e3
  have e4 := f8_skipY (S := T) (n := n) (p := q) (c := 58) ⟨hn, by omega, by omega⟩ hS h0
  have e5 := f8_readNumber (S := T) (n := n) (p := q + 1) ⟨hn, by omega⟩ hS h2
  have e6 := f0_findY (n := N) (v := v2) ⟨hN, hj1⟩ (x := z2) (by omega) (okB_c2 hB) hj.2.1 hj.2.2 hv
  have e7 := r6v_Y (T := T) (n := n) (p := n) (v := v2) (ns := q + 1) (x := z2) (u := I first) (by omega) (by omega) e6 hf.2
  have e8 : pX6_readLast (I first) (I first) (cz T) (I n) (I p) (I (-1)) (cz c) (I N) (I x) = some (I (j2 + v2 - 1), I n, I (-1), I v2, I (q + 1)) := obind e1 (obind e2 ((if_neg (by decide)).trans (obind e3 (obind e4 (obind e5 e7)))))
  exact obind e8 (rd_end hn)
theorem rd_0 (hB : okB N c l o) : ok6 (pX6_read (cz T) (I 0) (cz c) (I N)) 0 := by
  have hT := at0_bd (F := c) (n := N) (lo := 0) (hi := 10) (fun i p z => by have := (hB.2 i p z).2.2.1; omega) (by omega) (N - 1)
  have e0 : pX8_restart = some (I 0, I (-1), I 0, I 0) := rfl
  have e1 := f8_readNumber (S := T) (n := 0) (p := 0) (by omega) (fun i a b => by omega) rd_nu0
  have e2 := f6_chap (c := c) (nb := N) (f := 0) (v := 0) (ns := 0) (least := 1) hB.1 hT (by omega) (by omega) (by omega)
  rw [flt_2 (by omega), ite_self] at e2
  obtain ⟨a0, a1, x2, x3, x4, x5, e3⟩ := r6bB (S := T) (S2 := T) (n := 0) (f := 0) (p := 0) (x := 0) hB ⟨by omega, fun i a b => by omega⟩ (by omega) (by omega) (by omega)
  rw [r6_read]
  exact ⟨a0, a1, x2, x3, x4, x5, obind e0 (obind e1 (obind e2 e3))⟩
theorem rd_1 (hn : 0 ≤ n ∧ n ≤ 80) (hS : ∀ i, 0 ≤ i → i < n → 0 ≤ T i ∧ T i ≤ 65535) (hB : okB 0 c l o) (h1 : nuF T n 0 p (-1) z) (hz : 0 ≤ z ∧ z ≤ 99) (hp : 0 ≤ p ∧ p ≤ n) (hz1 : 1 ≤ z) : ok6 (pX6_read (cz T) (I n) (cz c) (I 0)) 0 := by
  have e0 : pX8_restart = some (I 0, I (-1), I 0, I 0) := rfl
  have e1 := f8_readNumber (S := T) (n := n) (p := 0) ⟨hn, by omega⟩ hS h1
  have hT : at0 c 0 (0 - 1) = 0 := at0_out (by omega)
  have e2 := f6_chap (c := c) (nb := 0) (f := -1) (v := z) (ns := 0) (least := 1) hB.1 (by rw [hT]; omega) (by omega) (by omega) (by omega)
  rw [hT, if_neg (by omega), flt_1] at e2
  obtain ⟨a0, a1, x2, x3, x4, x5, e3⟩ := r6bB (S := T) (S2 := T) (n := n) (f := 0) (p := p) (x := z) hB ⟨hn, fun i a b => ⟨rfl, hS i a b⟩⟩ (by omega) hp (by omega)
  rw [r6_read]
  exact ⟨a0, a1, x2, x3, x4, x5, obind e0 (obind e1 (obind e2 e3))⟩
end RD
