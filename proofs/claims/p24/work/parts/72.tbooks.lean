-- the chapters of a book, one behind the other; the law's look at the books
theorem ceil_w {l w : Int} (h : 1 ≤ l ∧ 1 ≤ w) : l ≤ (l + w - 1) / w * w ∧ ((l + w - 1) / w - 1) * w < l ∧ 1 ≤ (l + w - 1) / w ∧ (l + w - 1) / w ≤ l ∧ (l + w - 1) / w * w ≤ l + w ∧ ((l + w - 1) / w - 1) * w = (l + w - 1) / w * w - w := by
  have e := Int.mul_ediv_add_emod (l + w - 1) w
  have r0 := Int.emod_nonneg (l + w - 1) (by omega : w ≠ 0)
  have r1 := Int.emod_lt_of_pos (l + w - 1) (by omega : 0 < w)
  have q1 : 1 ≤ (l + w - 1) / w := by
    have := Int.ediv_le_ediv (c := w) (by omega) (show w ≤ l + w - 1 by omega)
    rw [Int.ediv_self (by omega)] at this
    exact this
  have q2 : (l + w - 1) / w ≤ l := by
    have h1 : (l + w - 1) / w ≤ (l * w) / w := Int.ediv_le_ediv (by omega) (by
      have : 0 ≤ (l - 1) * (w - 1) := Int.mul_nonneg (by omega) (by omega)
      rw [Int.sub_mul, Int.mul_sub] at this
      omega)
    rw [Int.mul_ediv_cancel _ (by omega)] at h1
    exact h1
  generalize (l + w - 1) / w = q at *
  have e2 : q * w = w * q := Int.mul_comm q w
  have e3 : (q - 1) * w = q * w - w := by rw [Int.sub_mul, Int.one_mul]
  rw [e3]
  omega
theorem cnt_run {c : Int → Int} {x j k : Int} (hj : 0 ≤ j) (hk : 0 ≤ k) (h0 : cnt c x j = 0) (h : ∀ i, j ≤ i → i < j + k → c i = x) : cnt c x (j + k) = k := by
  refine zind (P := fun k => (∀ i, j ≤ i → i < j + k → c i = x) → cnt c x (j + k) = k) (fun _ => by rw [Int.add_zero]; exact h0) (fun k hk ih h => ?_) k hk h
  rw [show j + (k + 1) = j + k + 1 by omega, cnt_s (by omega), ih (fun i a b => h i a (by omega)), if_pos (h (j + k) (by omega) (by omega))]
theorem cnt_none {c : Int → Int} {x a b : Int} (ha : 0 ≤ a) (hab : a ≤ b) (h : ∀ i, a ≤ i → i < b → ¬ c i = x) : cnt c x b = cnt c x a := by
  refine zindR (P := fun b => (∀ i, a ≤ i → i < b → ¬ c i = x) → cnt c x b = cnt c x a) a (fun _ => rfl) (fun k hk ih h => ?_) b hab h
  rw [cnt_s (by omega), ih (fun i p q => h i p (by omega)), if_neg (h k hk (by omega)), Int.add_zero]
theorem cns_s {c l : Int → Int} {x k : Int} (h : 0 ≤ k) : cns c l x (k + 1) = cns c l x k + (if c k = x then l k else 0) := Sm_s h
theorem cns_none {c l : Int → Int} {x a b : Int} (ha : 0 ≤ a) (hab : a ≤ b) (h : ∀ i, a ≤ i → i < b → ¬ c i = x) : cns c l x b = cns c l x a := by
  refine zindR (P := fun b => (∀ i, a ≤ i → i < b → ¬ c i = x) → cns c l x b = cns c l x a) a (fun _ => rfl) (fun k hk ih h => ?_) b hab h
  rw [cns_s (by omega), ih (fun i p q => h i p (by omega)), if_neg (h k hk (by omega)), Int.add_zero]
theorem ch_run {N z j : Int} {c l o : Int → Int} (h : okB N c l o) (hj : isF c z N j) : (1 ≤ cnt c z N ∧ j + cnt c z N ≤ N) ∧ (∀ i, j ≤ i → i < j + cnt c z N → c i = z) ∧ cns c l z N = cns c l z (j + cnt c z N) ∧ cns c l z j = 0 ∧ ((j + cnt c z N = N ∧ z = at0 c N (N - 1)) ∨ (z < at0 c N (N - 1) ∧ isF c (z + 1) N (j + cnt c z N))) := by
  obtain ⟨e, he⟩ := ex_L (P := c) (p := z) (g := N) ⟨j, hj.1.1, hj.1.2, hj.2.1⟩
  have hje : j ≤ e := by
    by_cases q : j ≤ e
    · exact q
    · exact absurd hj.2.1 (he.2.2 j (by omega) hj.1.2)
  have run : ∀ i, j ≤ i → i ≤ e → c i = z := fun i a b => by
    have h1 := okB_mono h (i := j) (k := i) hj.1.1 a (by have := he.1; omega)
    have h2 := okB_mono h (i := i) (k := e) (by have := hj.1; omega) b he.1.2
    rw [hj.2.1] at h1
    rw [he.2.1] at h2
    omega
  have c0 : cnt c z j = 0 := cnt_none (a := 0) (by omega) hj.1.1 (fun i a b => hj.2.2 i a b)
  have c1 : cnt c z (j + (e + 1 - j)) = e + 1 - j := cnt_run hj.1.1 (by omega) c0 (fun i a b => run i a (by omega))
  rw [show j + (e + 1 - j) = e + 1 by omega] at c1
  have hjN := hj.1
  have heN := he.1
  have c2 : cnt c z N = cnt c z (e + 1) := cnt_none (by omega) (by omega) (fun i a b => he.2.2 i (by omega) b)
  have cN : cnt c z N = e + 1 - j := c2.trans c1
  rw [cN, show j + (e + 1 - j) = e + 1 by omega]
  refine ⟨by omega, fun i a b => run i a (by omega), cns_none (by omega) (by omega) (fun i a b => he.2.2 i (by omega) b), cns_none (a := 0) (by omega) (by omega) (fun i a b => hj.2.2 i a b), ?_⟩
  rw [at0_in (by omega)]
  by_cases q : e + 1 = N
  · refine Or.inl ⟨q, ?_⟩
    rw [show N - 1 = e by omega]
    exact he.2.1.symm
  · have h3 := (h.2 e (by omega) he.1.2).2.2.2.2 (by omega)
    have h4 := he.2.2 (e + 1) (by omega) (by omega)
    rw [he.2.1] at h3
    have h5 : c (e + 1) = z + 1 := by omega
    have h6 := okB_mono h (i := e + 1) (k := N - 1) (by omega) (by omega) (by omega)
    refine Or.inr ⟨by omega, ⟨by omega, by omega⟩, h5, fun i a b => ?_⟩
    have h7 := okB_mono h (i := i) (k := e) a (by omega) he.1.2
    rw [he.2.1] at h7
    omega
theorem isF_run {N z j v : Int} {c l o : Int → Int} (h : okB N c l o) (hj : isF c z N j) (hv : j ≤ v ∧ v < j + cnt c z N) : isF c (c v) N j := by
  rw [(ch_run h hj).2.1 v hv.1 hv.2]
  exact hj
theorem ch_first {N : Int} {c l o : Int → Int} (h : okB N c l o) (hN : 0 < N) : isF c 1 N 0 := ⟨⟨by omega, hN⟩, (h.2 0 (by omega) hN).2.2.2.1 rfl, fun i a b => by omega⟩
section TB
variable {x : Sg} {b : Int} {c l o : Int → Int} {n w : Int} {f : Nat → Int32}
theorem tb_71 (d : dB x b c l o n w) (hb : 0 ≤ b ∧ b ≤ 1) (hf : f (I b).toNatClampNeg = I w) {K2 : Int32 → Option Int32} {K12 : Int32 → Int32 → Int32 → Option Int32} {j z : Int} (hj : isF c z n j) (hz : 1 ≤ z ∧ z ≤ at0 c n (n - 1)) : ∀ (m : Nat) (k s : Int), 0 ≤ k → k ≤ cnt c z n → cnt c z n - k < m → s = cns c l z (j + k) → pL_books_L71 x f K2 K12 m (I b) (I j) (I z) (I (cnt c z n)) (I s) (I k) = K12 (I b) (I (j + cnt c z n)) (I (z + 1)) := by
  obtain ⟨r1, r2, r3, r4, r5⟩ := ch_run d.1 hj
  have hn := d.1.1
  have hT := at0_bd (F := c) (n := n) (lo := 0) (hi := 10) (fun i p z => by have := (d.1.2 i p z).2.2.1; omega) (by omega) (n - 1)
  have hj1 := hj.1
  have sb : ∀ k, 0 ≤ k → k ≤ n → 0 ≤ cns c l z k ∧ cns c l z k ≤ 2000 * k := fun k a b => ⟨Sm_nn a (fun i p q => by have := (d.1.2 i p (by omega)).1; show 0 ≤ (if c i = z then l i else 0); split <;> omega), Sm_hi a (fun i p q => by have := (d.1.2 i p (by omega)).1; show (if c i = z then l i else 0) ≤ 2000; split <;> omega)⟩
  intro m
  induction m with
  | zero => intro k s a1 a2 a3; omega
  | succ m ih =>
    intro k s a1 a2 a3 hs
    show pL_books_bL71 _ _ _ _ _ _ _ _ _ _ _ = _
    unfold pL_books_bL71
    have hsb := sb (j + k) (by omega) (by omega)
    by_cases q : k = cnt c z n
    · rw [if_pos (by rw [I_le (by omega)]; omega)]
      refine obind (q_h2 d hz hj) ((if_pos ?_).trans ?_)
      · rw [hs, r3, q]
      · rw [I_l1, I_add, I_add]
    · rw [if_neg (by rw [I_le (by omega)]; omega), I_add]
      have qv : 0 ≤ j + k ∧ j + k < n := by omega
      have hk := d.1.2 (j + k) qv.1 qv.2
      have hjv := isF_run d.1 hj (v := j + k) (by omega)
      have hw := d.2.1
      have hc := r2 (j + k) (by omega) (by omega)
      obtain ⟨w1, w2, w3, w4, w5, w6⟩ := ceil_w (l := l (j + k)) (w := w) (by omega)
      refine obind (q_v2 d qv hjv) (obind (q_v4 d qv hjv) (obind (q_v0 d qv hjv) ((if_pos (by rw [hc])).trans (obind (q_v1 d qv hjv) ((if_pos ?_).trans ?_)))))
      · rw [I_l1, I_add, show j + k - j + 1 = k + 1 by omega]
      rw [if_neg (by rw [I_l1, I_lt (by omega)]; omega), if_neg (by rw [I_l2000, I_lt (by omega)]; omega)]
      refine obind (q_v3 d qv hjv) ((if_neg (by rw [I_l0, I_lt (by omega)]; omega)).trans (obind (q_v3 d qv hjv) ((if_neg (by rw [I_l10, I_lt (by omega)]; omega)).trans ?_)))
      have hin : kIn (I b) 2 := by unfold kIn; rw [I_toInt (by omega)]; omega
      rw [if_pos hin, if_pos hin, hf, I_l1, I_sub, I_mul, I_mul]
      rw [if_neg (by rw [I_lt (by omega)]; omega), if_neg (by rw [I_le (by omega)]; omega)]
      refine obind (q_v5 d qv hjv) ((if_pos rfl).trans ?_)
      rw [I_add, I_add]
      have e := cns_s (c := c) (l := l) (x := z) (k := j + k) (by omega)
      rw [if_pos hc] at e
      exact ih (k + 1) (s + l (j + k)) (by omega) (by omega) (by omega) (by rw [show j + (k + 1) = j + k + 1 by omega, e, hs])
theorem tb_12 (d : dB x b c l o n w) (hb : 0 ≤ b ∧ b ≤ 1) (hf : f (I b).toNatClampNeg = I w) (hc0 : sCount x (I b) = some (I (at0 c n (n - 1)))) (hc2 : sCount x (I (2 + b)) = some (I n)) {K2 : Int32 → Option Int32} : ∀ (m : Nat) (j z : Int), 1 ≤ z → z ≤ at0 c n (n - 1) + 1 → at0 c n (n - 1) + 1 - z < m → ((z = at0 c n (n - 1) + 1 ∧ j = n) ∨ (z ≤ at0 c n (n - 1) ∧ isF c z n j)) → pL_books_L12 x f K2 m (I b) (I j) (I z) = K2 (I (b + 1)) := by
  have hn := d.1.1
  have hT := at0_bd (F := c) (n := n) (lo := 0) (hi := 10) (fun i p z => by have := (d.1.2 i p z).2.2.1; omega) (by omega) (n - 1)
  intro m
  induction m with
  | zero => intro j z a1 a2 a3; omega
  | succ m ih =>
    intro j z a1 a2 a3 hi
    show pL_books_bL12 _ _ _ _ _ _ _ = _
    unfold pL_books_bL12
    refine obind hc0 ?_
    rcases hi with ⟨h1, h2⟩ | ⟨h1, h2⟩
    · rw [if_pos (by rw [I_lt (by omega)]; omega), I_l2, I_add]
      subst h2
      refine obind hc2 ((if_pos rfl).trans ((if_neg (by rw [I_l60, I_lt (by omega)]; omega)).trans (obind (q_verseN d (by omega) (by omega)) ((if_pos rfl).trans (obind (q_chapterN d (z := 0) (by omega) (by omega)) ((if_pos rfl).trans (obind hc0 ?_)))))))
      rw [I_l1, I_add]
      refine obind (q_chapterN d (by omega) (by omega)) ((if_pos rfl).trans ?_)
      rw [I_add]
    · rw [if_neg (by rw [I_lt (by omega)]; omega)]
      obtain ⟨r1, r2, r3, r4, r5⟩ := ch_run d.1 h2
      have hj1 := h2.1
      refine obind (q_h1 d ⟨a1, h1⟩ h2) ((if_neg (by rw [I_l1, I_lt (by omega)]; omega)).trans (obind (q_h0 d ⟨a1, h1⟩ h2) ((if_pos rfl).trans (obind (q_h3 d ⟨a1, h1⟩ h2) ((if_pos rfl).trans ?_)))))
      refine (tb_71 d hb hf h2 ⟨a1, h1⟩ 4000 0 0 (by omega) (by omega) (by omega) (by rw [Int.add_zero]; exact r4.symm)).trans ?_
      exact ih _ _ (by omega) (by omega) (by omega) (by
        rcases r5 with ⟨e1, e2⟩ | ⟨e1, e2⟩
        · exact Or.inl ⟨by omega, e1⟩
        · exact Or.inr ⟨by omega, e2⟩)
end TB
theorem T_books {x : Sg} {c0 l0 o0 : Int → Int} {n0 : Int} {c1 l1 o1 : Int → Int} {n1 : Int} {L R : Int → Int} {g k w0 w1 ph h : Int} (d : dX x c0 l0 o0 n0 c1 l1 o1 n1 L R g k w0 w1 ph h) {f : Nat → Int32} (hf0 : f 0 = I w0) (hf1 : f 1 = I w1) : pL_books x f = some (I 1) := by
  have start : ∀ {c l o : Int → Int} {n : Int}, okB n c l o → (((1 : Int) = at0 c n (n - 1) + 1 ∧ 0 = n) ∨ ((1 : Int) ≤ at0 c n (n - 1) ∧ isF c 1 n 0)) := by
    intro c l o n hB
    by_cases q : 0 < n
    · have h1 := ch_first hB q
      have h2 := okB_mono hB (i := 0) (k := n - 1) (by omega) (by omega) (by omega)
      rw [h1.2.1] at h2
      rw [at0_in (by omega)]
      exact Or.inr ⟨h2, h1⟩
    · have := hB.1
      rw [at0_out (by omega)]
      exact Or.inl ⟨by omega, by omega⟩
  have hT0 := at0_bd (F := c0) (n := n0) (lo := 0) (hi := 10) (fun i p z => by have := (d.b0.1.2 i p z).2.2.1; omega) (by omega) (n0 - 1)
  have hT1 := at0_bd (F := c1) (n := n1) (lo := 0) (hi := 10) (fun i p z => by have := (d.b1.1.2 i p z).2.2.1; omega) (by omega) (n1 - 1)
  unfold pL_books
  show pL_books_bL2 _ _ _ (I 0) = _
  unfold pL_books_bL2
  rw [if_neg (by decide)]
  refine (tb_12 d.b0 (by omega) hf0 (q_c0 d) (q_c2 d) 4000 0 1 (by omega) (by omega) (by omega) (start d.b0.1)).trans ?_
  show pL_books_bL2 _ _ _ (I 1) = _
  unfold pL_books_bL2
  rw [if_neg (by decide)]
  refine (tb_12 d.b1 (by omega) hf1 (q_c1 d) (q_c3 d) 4000 0 1 (by omega) (by omega) (by omega) (start d.b1.1)).trans ?_
  show pL_books_bL2 _ _ _ (I 2) = _
  unfold pL_books_bL2
  rw [if_pos (by decide)]
  exact obind (q_verse2 d) ((if_pos rfl).trans (obind (q_c12 d) ((if_pos rfl).trans (obind (q_cN d) (if_pos rfl)))))
