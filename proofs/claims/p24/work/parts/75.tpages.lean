-- the law's look at the pages
theorem psm_tail {P F : Int → Int} {p a b : Int} (ha : 0 ≤ a) (hab : a ≤ b) (h : ∀ i, a ≤ i → i < b → ¬ P i = p) : psm P F p b = psm P F p a := by
  refine zindR (P := fun b => (∀ i, a ≤ i → i < b → ¬ P i = p) → psm P F p b = psm P F p a) a (fun _ => rfl) (fun k hk ih h => ?_) b hab h
  rw [psm_s (by omega), ih (fun i p q => h i p (by omega)), if_neg (h k hk (by omega)), Int.add_zero]
section TP
variable {x : Sg} {c0 l0 o0 : Int → Int} {n0 : Int} {c1 l1 o1 : Int → Int} {n1 : Int} {L R : Int → Int} {g k w0 w1 ph h : Int}
theorem wl_if {z : Int} (hz : 0 ≤ z) : wl z = if z ≤ 0 then 0 else z + 1 := by
  unfold wl
  by_cases q : z = 0
  · rw [if_pos q, if_pos (by omega)]
  · rw [if_neg q, if_neg (by omega)]
-- behind group i: p its page, u what is used of it, s its notes
theorem tp_132 (d : dX x c0 l0 o0 n0 c1 l1 o1 n1 L R g k w0 w1 ph h) {i p : Int} (hi : 0 ≤ i ∧ i < g) (hp : p = pgP (hgt c0 l0 c1 l1 L R w0 w1 h) (nts o0 o1 L R) ph i) (hF : ph < pgU (hgt c0 l0 c1 l1 L R w0 w1 h) (nts o0 o1 L R) ph (i + 1) + wl (pgS (hgt c0 l0 c1 l1 L R w0 w1 h) (nts o0 o1 L R) ph (i + 1)) → isF (pgP (hgt c0 l0 c1 l1 L R w0 w1 h) (nts o0 o1 L R) ph) p g i) {u s : Int} (hu : u + hgt c0 l0 c1 l1 L R w0 w1 h i = pgU (hgt c0 l0 c1 l1 L R w0 w1 h) (nts o0 o1 L R) ph (i + 1)) (hs : s + nts o0 o1 L R i = pgS (hgt c0 l0 c1 l1 L R w0 w1 h) (nts o0 o1 L R) ph (i + 1)) {K : Int32 → Int32 → Int32 → Int32 → Int32 → Int32 → Option Int32} : pL_pages_j132 x K (I ph) (I g) (I p) (I u) (I s) (I i) = K (I ph) (I g) (I p) (I (pgU (hgt c0 l0 c1 l1 L R w0 w1 h) (nts o0 o1 L R) ph (i + 1))) (I (pgS (hgt c0 l0 c1 l1 L R w0 w1 h) (nts o0 o1 L R) ph (i + 1))) (I (i + 1)) := by
  obtain ⟨-, -, k0, k1, kM, -, hw0, hw1, hph, hh⟩ := id d
  have hg := kM.1
  have h1 := hgt_bd k0 k1 kM (w0 := w0) (w1 := w1) (h := h) (by omega) (by omega) hh
  have h2 := nts_bd k0 k1 kM
  have B := pg_bd (ph := ph) h1 h2 (i + 1) (by omega) (by omega)
  have hp0 := pgP_lt (ph := ph) h1 h2 (i + 1) (by omega) i hi.1 (by omega)
  rw [← hp] at hp0
  have hpC : p = pgC (hgt c0 l0 c1 l1 L R w0 w1 h) (nts o0 o1 L R) ph (i + 1) - 1 := hp
  have wb := wl_bd (x := pgS (hgt c0 l0 c1 l1 L R w0 w1 h) (nts o0 o1 L R) ph (i + 1)) (by omega)
  have j296 : pL_pages_j296 x K (I ph) (I g) (I p) (I (pgU (hgt c0 l0 c1 l1 L R w0 w1 h) (nts o0 o1 L R) ph (i + 1))) (I (pgS (hgt c0 l0 c1 l1 L R w0 w1 h) (nts o0 o1 L R) ph (i + 1))) (I i) = K (I ph) (I g) (I p) (I (pgU (hgt c0 l0 c1 l1 L R w0 w1 h) (nts o0 o1 L R) ph (i + 1))) (I (pgS (hgt c0 l0 c1 l1 L R w0 w1 h) (nts o0 o1 L R) ph (i + 1))) (I (i + 1)) := by
    unfold pL_pages_j296
    rw [I_l1, I_add]
  have last : isL (pgP (hgt c0 l0 c1 l1 L R w0 w1 h) (nts o0 o1 L R) ph) p g i → pL_pages_j184 x K (I ph) (I g) (I p) (I (pgU (hgt c0 l0 c1 l1 L R w0 w1 h) (nts o0 o1 L R) ph (i + 1))) (I (pgS (hgt c0 l0 c1 l1 L R w0 w1 h) (nts o0 o1 L R) ph (i + 1))) (I i) (I 1) = K (I ph) (I g) (I p) (I (pgU (hgt c0 l0 c1 l1 L R w0 w1 h) (nts o0 o1 L R) ph (i + 1))) (I (pgS (hgt c0 l0 c1 l1 L R w0 w1 h) (nts o0 o1 L R) ph (i + 1))) (I (i + 1)) := by
    intro hL
    obtain ⟨j, hj⟩ := ex_F (P := pgP (hgt c0 l0 c1 l1 L R w0 w1 h) (nts o0 o1 L R) ph) (p := p) (g := g) ⟨i, hi.1, hi.2, hp.symm⟩
    have hU : psm (pgP (hgt c0 l0 c1 l1 L R w0 w1 h) (nts o0 o1 L R) ph) (hgt c0 l0 c1 l1 L R w0 w1 h) p g = pgU (hgt c0 l0 c1 l1 L R w0 w1 h) (nts o0 o1 L R) ph (i + 1) := by
      rw [psm_tail (a := i + 1) (by omega) (by omega) (fun j a b => hL.2.2 j (by omega) b), hpC]
      exact (pg_last (ph := ph) h1 h2 (i + 1) (by omega) (by omega) (by omega)).1
    have hS : psm (pgP (hgt c0 l0 c1 l1 L R w0 w1 h) (nts o0 o1 L R) ph) (nts o0 o1 L R) p g = pgS (hgt c0 l0 c1 l1 L R w0 w1 h) (nts o0 o1 L R) ph (i + 1) := by
      rw [psm_tail (a := i + 1) (by omega) (by omega) (fun j a b => hL.2.2 j (by omega) b), hpC]
      exact (pg_last (ph := ph) h1 h2 (i + 1) (by omega) (by omega) (by omega)).2
    have p1 := q_p1 d (by omega) hj hL
    have p2 := q_p2 d (by omega) hj hL
    have p3 := q_p3 d (by omega) hj hL
    have p4 := q_p4 d (by omega) hj hL
    rw [hU] at p2 p4
    rw [hS] at p3 p4
    have j199 : pL_pages_j199 x K (I ph) (I g) (I p) (I (pgU (hgt c0 l0 c1 l1 L R w0 w1 h) (nts o0 o1 L R) ph (i + 1))) (I (pgS (hgt c0 l0 c1 l1 L R w0 w1 h) (nts o0 o1 L R) ph (i + 1))) (I i) (I 1) (I (wl (pgS (hgt c0 l0 c1 l1 L R w0 w1 h) (nts o0 o1 L R) ph (i + 1)))) = K (I ph) (I g) (I p) (I (pgU (hgt c0 l0 c1 l1 L R w0 w1 h) (nts o0 o1 L R) ph (i + 1))) (I (pgS (hgt c0 l0 c1 l1 L R w0 w1 h) (nts o0 o1 L R) ph (i + 1))) (I (i + 1)) := by
      unfold pL_pages_j199
      rw [if_neg (by decide)]
      refine obind p1 ((if_pos rfl).trans (obind p2 ((if_pos rfl).trans (obind p3 ((if_pos rfl).trans (obind p4 ?_))))))
      unfold pL_pages_j259
      rw [I_add]
      by_cases z : pgU (hgt c0 l0 c1 l1 L R w0 w1 h) (nts o0 o1 L R) ph (i + 1) + wl (pgS (hgt c0 l0 c1 l1 L R w0 w1 h) (nts o0 o1 L R) ph (i + 1)) ≤ ph
      · rw [if_pos (by rw [I_le (by omega)]; exact z), if_pos (by rw [if_pos z]; rfl)]
        refine obind (q_pageW d (p := p) (y := 5) (by omega) (by omega) (by omega)) ((if_pos rfl).trans (obind p4 ?_))
        rw [if_neg (by rw [if_pos z]; decide)]
        exact j296
      · rw [if_neg (by rw [I_le (by omega)]; exact z), if_pos (by rw [if_neg z]; rfl)]
        have hf := hF (by omega)
        refine obind (q_pageW d (p := p) (y := 5) (by omega) (by omega) (by omega)) ((if_pos rfl).trans (obind p4 ?_))
        rw [if_pos (by rw [if_neg z]; rfl)]
        exact obind (q_p0 d (by omega) hf hL) ((if_pos rfl).trans j296)
    unfold pL_pages_j184
    by_cases z : pgS (hgt c0 l0 c1 l1 L R w0 w1 h) (nts o0 o1 L R) ph (i + 1) ≤ 0
    · rw [if_pos (by rw [I_l0, I_le (by omega)]; exact z)]
      have e : wl (pgS (hgt c0 l0 c1 l1 L R w0 w1 h) (nts o0 o1 L R) ph (i + 1)) = 0 := by rw [wl_if (by omega), if_pos z]
      rw [e] at j199
      exact j199
    · rw [if_neg (by rw [I_l0, I_le (by omega)]; exact z), I_l1, I_add]
      have e : wl (pgS (hgt c0 l0 c1 l1 L R w0 w1 h) (nts o0 o1 L R) ph (i + 1)) = pgS (hgt c0 l0 c1 l1 L R w0 w1 h) (nts o0 o1 L R) ph (i + 1) + 1 := by rw [wl_if (by omega), if_neg z]
      rw [e] at j199
      exact j199
  unfold pL_pages_j132
  refine obind (q_g5 d hi) (obind (q_g8 d hi) ?_)
  rw [I_add, I_add, hu, hs]
  have bh := h1 i hi.1 hi.2
  have bn := h2 i hi.1 hi.2
  by_cases q : i = g - 1
  · rw [if_pos (by rw [I_l1, I_sub, q])]
    exact last ⟨hi, hp.symm, fun j a b => by omega⟩
  · rw [if_neg (by rw [I_l1, I_sub, I_eq (by omega)]; exact q), I_l1, I_add]
    have hi1 : 0 ≤ i + 1 ∧ i + 1 < g := by omega
    have hpp := pgP_lt (ph := ph) h1 h2 g (Int.le_refl _) (i + 1) hi1.1 hi1.2
    have hCg := (pg_bd (ph := ph) h1 h2 g hg.1 (Int.le_refl _)).1
    refine obind (q_g6 d hi1) ?_
    by_cases z : pgP (hgt c0 l0 c1 l1 L R w0 w1 h) (nts o0 o1 L R) ph (i + 1) ≤ p
    · rw [if_pos (by rw [I_le (by omega)]; exact z)]
      unfold pL_pages_j184 pL_pages_j199
      by_cases z2 : pgS (hgt c0 l0 c1 l1 L R w0 w1 h) (nts o0 o1 L R) ph (i + 1) ≤ 0
      · rw [if_pos (by rw [I_l0, I_le (by omega)]; exact z2), if_pos rfl]
        exact j296
      · rw [if_neg (by rw [I_l0, I_le (by omega)]; exact z2), if_pos rfl]
        exact j296
    · rw [if_neg (by rw [I_le (by omega)]; exact z)]
      unfold pL_pages_j179
      refine last ⟨hi, hp.symm, fun j a b => ?_⟩
      have m1 := pgC_mono (ht := (hgt c0 l0 c1 l1 L R w0 w1 h)) (nt := (nts o0 o1 L R)) (ph := ph) (i + 1 + 1) (j + 1) (by omega) (by omega)
      have e1 : pgP (hgt c0 l0 c1 l1 L R w0 w1 h) (nts o0 o1 L R) ph (i + 1) = pgC (hgt c0 l0 c1 l1 L R w0 w1 h) (nts o0 o1 L R) ph (i + 1 + 1) - 1 := rfl
      have e2 : pgP (hgt c0 l0 c1 l1 L R w0 w1 h) (nts o0 o1 L R) ph j = pgC (hgt c0 l0 c1 l1 L R w0 w1 h) (nts o0 o1 L R) ph (j + 1) - 1 := rfl
      omega
theorem tp_17 (d : dX x c0 l0 o0 n0 c1 l1 o1 n1 L R g k w0 w1 ph h) : ∀ (mm : Nat) (i : Int), 0 ≤ i → i ≤ g → g - i < mm → pL_pages_L17 x mm (I ph) (I g) (I (pgC (hgt c0 l0 c1 l1 L R w0 w1 h) (nts o0 o1 L R) ph i - 1)) (I (pgU (hgt c0 l0 c1 l1 L R w0 w1 h) (nts o0 o1 L R) ph i)) (I (pgS (hgt c0 l0 c1 l1 L R w0 w1 h) (nts o0 o1 L R) ph i)) (I i) = some (I 1) := by
  obtain ⟨-, -, k0, k1, kM, -, hw0, hw1, hph, hh⟩ := id d
  have hg := kM.1
  have h1 := hgt_bd k0 k1 kM (w0 := w0) (w1 := w1) (h := h) (by omega) (by omega) hh
  have h2 := nts_bd k0 k1 kM
  intro mm
  induction mm with
  | zero => intro i a1 a2 a3; omega
  | succ mm ih =>
    intro i a1 a2 a3
    show pL_pages_bL17 _ _ _ _ _ _ _ _ = _
    unfold pL_pages_bL17
    have B := pg_bd (ph := ph) h1 h2 i a1 a2
    by_cases q : i = g
    · subst q
      rw [if_pos (by rw [I_le (by omega)]; omega)]
      refine obind (q_c9 d) ((if_pos (by rw [I_l1, I_add, show pgC (hgt c0 l0 c1 l1 L R w0 w1 h) (nts o0 o1 L R) ph i - 1 + 1 = pgC (hgt c0 l0 c1 l1 L R w0 w1 h) (nts o0 o1 L R) ph i by omega])).trans ?_)
      rw [I_l1, I_add, show pgC (hgt c0 l0 c1 l1 L R w0 w1 h) (nts o0 o1 L R) ph i - 1 + 1 = pgC (hgt c0 l0 c1 l1 L R w0 w1 h) (nts o0 o1 L R) ph i by omega]
      have e1 : sPage x (I (pgC (hgt c0 l0 c1 l1 L R w0 w1 h) (nts o0 o1 L R) ph i)) (I 0) = some (I (-5)) := q_pageE d (y := 0) ⟨Int.le_refl _, by omega⟩ (by omega)
      have e2 : sPage x (I (-1)) (I 0) = some (I (-2)) := q_pageN d (p := -1) (by omega)
      refine obind e1 ((if_pos (by decide)).trans (obind e2 (if_pos (by decide))))
    · rw [if_neg (by rw [I_le (by omega)]; omega)]
      have hi : 0 ≤ i ∧ i < g := by omega
      have bh := h1 i hi.1 hi.2
      have bn := h2 i hi.1 hi.2
      have wb := wl_bd (x := pgS (hgt c0 l0 c1 l1 L R w0 w1 h) (nts o0 o1 L R) ph i + nts o0 o1 L R i) (by omega)
      have P0 : pgP (hgt c0 l0 c1 l1 L R w0 w1 h) (nts o0 o1 L R) ph i = pgC (hgt c0 l0 c1 l1 L R w0 w1 h) (nts o0 o1 L R) ph (i + 1) - 1 := rfl
      have L0 : pgL (hgt c0 l0 c1 l1 L R w0 w1 h) (nts o0 o1 L R) ph i = pgU (hgt c0 l0 c1 l1 L R w0 w1 h) (nts o0 o1 L R) ph (i + 1) - hgt c0 l0 c1 l1 L R w0 w1 h i := rfl
      have next : (pgC (hgt c0 l0 c1 l1 L R w0 w1 h) (nts o0 o1 L R) ph i = 0 ∨ ph < pgU (hgt c0 l0 c1 l1 L R w0 w1 h) (nts o0 o1 L R) ph i + hgt c0 l0 c1 l1 L R w0 w1 h i + wl (pgS (hgt c0 l0 c1 l1 L R w0 w1 h) (nts o0 o1 L R) ph i + nts o0 o1 L R i)) → pL_pages_j68 x (pL_pages_L17 x mm) (I ph) (I g) (I (pgC (hgt c0 l0 c1 l1 L R w0 w1 h) (nts o0 o1 L R) ph i - 1)) (I (pgU (hgt c0 l0 c1 l1 L R w0 w1 h) (nts o0 o1 L R) ph i)) (I (pgS (hgt c0 l0 c1 l1 L R w0 w1 h) (nts o0 o1 L R) ph i)) (I i) = some (I 1) := by
        intro hn
        rcases pg_s (ht := (hgt c0 l0 c1 l1 L R w0 w1 h)) (nt := (nts o0 o1 L R)) (ph := ph) a1 with ⟨-, e1, e2, e3⟩ | ⟨hne, -⟩
        · have hF : isF (pgP (hgt c0 l0 c1 l1 L R w0 w1 h) (nts o0 o1 L R) ph) (pgC (hgt c0 l0 c1 l1 L R w0 w1 h) (nts o0 o1 L R) ph i) g i := ⟨hi, by rw [P0]; omega, fun j a b => by have := pgP_lt (ph := ph) h1 h2 i a2 j a b; omega⟩
          obtain ⟨j2, hj2⟩ := ex_L (P := pgP (hgt c0 l0 c1 l1 L R w0 w1 h) (nts o0 o1 L R) ph) (p := pgC (hgt c0 l0 c1 l1 L R w0 w1 h) (nts o0 o1 L R) ph i) (g := g) ⟨i, hi.1, hi.2, hF.2.1⟩
          unfold pL_pages_j68 pL_pages_j73
          rw [if_neg (by decide), I_l1, I_add, show pgC (hgt c0 l0 c1 l1 L R w0 w1 h) (nts o0 o1 L R) ph i - 1 + 1 = pgC (hgt c0 l0 c1 l1 L R w0 w1 h) (nts o0 o1 L R) ph i by omega]
          unfold pL_pages_j89
          refine obind (q_g6 d hi) ((if_pos (by rw [hF.2.1])).trans (obind (q_g7 d hi) ((if_pos (by rw [L0, e2, Int.sub_self]; rfl)).trans ((if_neg (by decide)).trans (obind (q_p0 d (by omega) hF hj2) ((if_pos rfl).trans ?_))))))
          refine (tp_132 d hi hF.2.1.symm (fun _ => hF) (u := 0) (s := 0) (by rw [e2]; omega) (by rw [e3]; omega)).trans ?_
          have := ih (i + 1) (by omega) (by omega) (by omega)
          rw [show pgC (hgt c0 l0 c1 l1 L R w0 w1 h) (nts o0 o1 L R) ph (i + 1) - 1 = pgC (hgt c0 l0 c1 l1 L R w0 w1 h) (nts o0 o1 L R) ph i by omega] at this
          exact this
        · exact absurd hn hne
      refine obind (q_g8 d hi) ?_
      by_cases z : pgC (hgt c0 l0 c1 l1 L R w0 w1 h) (nts o0 o1 L R) ph i = 0
      · rw [if_pos (by rw [I_l0, I_lt (by omega)]; omega)]
        exact next (Or.inl z)
      · rw [if_neg (by rw [I_l0, I_lt (by omega)]; omega)]
        refine obind (q_g5 d hi) ?_
        have j63 : pL_pages_j63 x (pL_pages_L17 x mm) (I ph) (I g) (I (pgC (hgt c0 l0 c1 l1 L R w0 w1 h) (nts o0 o1 L R) ph i - 1)) (I (pgU (hgt c0 l0 c1 l1 L R w0 w1 h) (nts o0 o1 L R) ph i)) (I (pgS (hgt c0 l0 c1 l1 L R w0 w1 h) (nts o0 o1 L R) ph i)) (I i) (I (pgU (hgt c0 l0 c1 l1 L R w0 w1 h) (nts o0 o1 L R) ph i + hgt c0 l0 c1 l1 L R w0 w1 h i)) (I (wl (pgS (hgt c0 l0 c1 l1 L R w0 w1 h) (nts o0 o1 L R) ph i + nts o0 o1 L R i))) = some (I 1) := by
          unfold pL_pages_j63
          rw [I_add]
          by_cases z2 : pgU (hgt c0 l0 c1 l1 L R w0 w1 h) (nts o0 o1 L R) ph i + hgt c0 l0 c1 l1 L R w0 w1 h i + wl (pgS (hgt c0 l0 c1 l1 L R w0 w1 h) (nts o0 o1 L R) ph i + nts o0 o1 L R i) ≤ ph
          · rw [if_pos (by rw [I_le (by omega)]; exact z2)]
            rcases pg_s (ht := (hgt c0 l0 c1 l1 L R w0 w1 h)) (nt := (nts o0 o1 L R)) (ph := ph) a1 with ⟨hn, -⟩ | ⟨-, e1, e2, e3⟩
            · exact absurd hn (by omega)
            · unfold pL_pages_j73
              rw [if_pos rfl]
              unfold pL_pages_j89
              refine obind (q_g6 d hi) ((if_pos (by rw [P0, e1])).trans (obind (q_g7 d hi) ((if_pos (by rw [L0, e2, show pgU (hgt c0 l0 c1 l1 L R w0 w1 h) (nts o0 o1 L R) ph i + hgt c0 l0 c1 l1 L R w0 w1 h i - hgt c0 l0 c1 l1 L R w0 w1 h i = pgU (hgt c0 l0 c1 l1 L R w0 w1 h) (nts o0 o1 L R) ph i by omega])).trans ((if_pos rfl).trans ?_))))
              refine (tp_132 d hi (p := pgC (hgt c0 l0 c1 l1 L R w0 w1 h) (nts o0 o1 L R) ph i - 1) (by rw [P0, e1]) (fun w => by rw [e2, e3] at w; omega) (u := pgU (hgt c0 l0 c1 l1 L R w0 w1 h) (nts o0 o1 L R) ph i) (s := pgS (hgt c0 l0 c1 l1 L R w0 w1 h) (nts o0 o1 L R) ph i) (by rw [e2]) (by rw [e3])).trans ?_
              have := ih (i + 1) (by omega) (by omega) (by omega)
              rw [e1] at this
              exact this
          · rw [if_neg (by rw [I_le (by omega)]; exact z2)]
            exact next (Or.inr (by omega))
        rw [I_add, I_add]
        by_cases z2 : pgS (hgt c0 l0 c1 l1 L R w0 w1 h) (nts o0 o1 L R) ph i + nts o0 o1 L R i ≤ 0
        · rw [if_pos (by rw [I_l0, I_le (by omega)]; exact z2)]
          have e : wl (pgS (hgt c0 l0 c1 l1 L R w0 w1 h) (nts o0 o1 L R) ph i + nts o0 o1 L R i) = 0 := by rw [wl_if (by omega), if_pos z2]
          rw [e] at j63
          exact j63
        · rw [if_neg (by rw [I_l0, I_le (by omega)]; exact z2), I_l1, I_add]
          have e : wl (pgS (hgt c0 l0 c1 l1 L R w0 w1 h) (nts o0 o1 L R) ph i + nts o0 o1 L R i) = pgS (hgt c0 l0 c1 l1 L R w0 w1 h) (nts o0 o1 L R) ph i + nts o0 o1 L R i + 1 := by rw [wl_if (by omega), if_neg z2]
          rw [e] at j63
          exact j63
theorem T_pages (d : dX x c0 l0 o0 n0 c1 l1 o1 n1 L R g k w0 w1 ph h) : pL_pages x (I ph) = some (I 1) := by
  have hg := d.2.2.2.2.1.1
  unfold pL_pages
  exact obind (q_c4 d) (tp_17 d 4000 0 (by omega) (by omega) (by omega))
end TP
