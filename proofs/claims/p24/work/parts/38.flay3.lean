-- out of 38.flay3
-- sums over the groups of a page
def psm (P F : Int → Int) (p g : Int) : Int := Sm (fun i => if P i = p then F i else 0) g
theorem psm_s {P F : Int → Int} {p k : Int} (h : 0 ≤ k) : psm P F p (k + 1) = psm P F p k + (if P k = p then F k else 0) := Sm_s h
theorem psm_0 {P F : Int → Int} {p k : Int} (h : 0 ≤ k) (hP : ∀ i, 0 ≤ i → i < k → ¬ P i = p) : psm P F p k = 0 := by
  have e1 : psm P F p k = Sm (fun _ => 0) k := Sm_congr h (fun i a b => if_neg (hP i a b))
  rw [e1]
  exact zind (P := fun k => Sm (fun _ => 0) k = 0) rfl (fun k hk ih => by rw [Sm_s hk, ih]; rfl) k h
theorem psm_bd {P F : Int → Int} {p k c : Int} (h : 0 ≤ k) (hc : 0 ≤ c) (hF : ∀ i, 0 ≤ i → i < k → 0 ≤ F i ∧ F i ≤ c) : 0 ≤ psm P F p k ∧ psm P F p k ≤ c * k := by
  have h1 := Sm_nn (F := fun i => if P i = p then F i else 0) h (fun i a b => by have := hF i a b; show 0 ≤ if P i = p then F i else 0; split <;> omega)
  have h2 := Sm_hi (F := fun i => if P i = p then F i else 0) (c := c) h (fun i a b => by have := hF i a b; show (if P i = p then F i else 0) ≤ c; split <;> omega)
  exact ⟨h1, h2⟩
theorem psm_congr {P Q F G : Int → Int} {p k : Int} (h : 0 ≤ k) (hP : ∀ i, 0 ≤ i → i < k → P i = Q i) (hF : ∀ i, 0 ≤ i → i < k → F i = G i) : psm P F p k = psm Q G p k := Sm_congr h (fun i a b => by show (if P i = p then F i else 0) = if Q i = p then G i else 0; rw [hP i a b, hF i a b])
section PG
variable {ht nt : Int → Int} {ph g : Int}
theorem pgC_mono (j k : Int) (h0 : 0 ≤ j) (h : j ≤ k) : pgC ht nt ph j ≤ pgC ht nt ph k := by
  refine zindR (P := fun k => pgC ht nt ph j ≤ pgC ht nt ph k) j (Int.le_refl _) (fun k hk ih => ?_) k h
  rcases pg_s (ht := ht) (nt := nt) (ph := ph) (k := k) (by omega) with ⟨-, e1, -, -⟩ | ⟨-, e1, -, -⟩ <;> omega
theorem pgP_lt (hh : ∀ i, 0 ≤ i → i < g → 0 ≤ ht i ∧ ht i ≤ 1000000) (hn : ∀ i, 0 ≤ i → i < g → 0 ≤ nt i ∧ nt i ≤ 1000000) (k : Int) (hk : k ≤ g) (j : Int) (h0 : 0 ≤ j) (h : j < k) : 0 ≤ pgP ht nt ph j ∧ pgP ht nt ph j < pgC ht nt ph k := by
  have h1 := pgC_mono (ht := ht) (nt := nt) (ph := ph) (j + 1) k (by omega) (by omega)
  have h2 := (pg_bd (ph := ph) hh hn (j + 1) (by omega) (by omega)).1.2.2 (by omega)
  unfold pgP
  omega
theorem pg_last (hh : ∀ i, 0 ≤ i → i < g → 0 ≤ ht i ∧ ht i ≤ 1000000) (hn : ∀ i, 0 ≤ i → i < g → 0 ≤ nt i ∧ nt i ≤ 1000000) (k : Int) (h0 : 0 ≤ k) (hk : k ≤ g) : 0 < k → psm (pgP ht nt ph) ht (pgC ht nt ph k - 1) k = pgU ht nt ph k ∧ psm (pgP ht nt ph) nt (pgC ht nt ph k - 1) k = pgS ht nt ph k := by
  revert hk
  refine zind (P := fun k => k ≤ g → 0 < k → psm (pgP ht nt ph) ht (pgC ht nt ph k - 1) k = pgU ht nt ph k ∧ psm (pgP ht nt ph) nt (pgC ht nt ph k - 1) k = pgS ht nt ph k) (fun _ h => by omega) (fun k hk0 ih hk _ => ?_) k h0
  rw [psm_s hk0, psm_s hk0]
  have e0 : pgP ht nt ph k = pgC ht nt ph (k + 1) - 1 := rfl
  rw [if_pos e0, if_pos e0]
  rcases pg_s (ht := ht) (nt := nt) (ph := ph) hk0 with ⟨-, e1, e2, e3⟩ | ⟨hne, e1, e2, e3⟩
  · rw [psm_0 hk0 (fun i a b => by have := pgP_lt (ph := ph) hh hn k (by omega) i a b; omega), psm_0 hk0 (fun i a b => by have := pgP_lt (ph := ph) hh hn k (by omega) i a b; omega)]
    omega
  · have h1 := (pg_bd (ph := ph) hh hn k hk0 (by omega)).1
    have hk1 : 0 < k := by
      by_cases z : k = 0
      · subst z
        have := (pg_0 ht nt ph).1
        exact absurd (Or.inl this) hne
      · omega
    have h2 := ih (by omega) hk1
    rw [e1]
    omega
theorem pg_some (hh : ∀ i, 0 ≤ i → i < g → 0 ≤ ht i ∧ ht i ≤ 1000000) (hn : ∀ i, 0 ≤ i → i < g → 0 ≤ nt i ∧ nt i ≤ 1000000) (k : Int) (h0 : 0 ≤ k) (p : Int) (hp : 0 ≤ p ∧ p < pgC ht nt ph k) : ∃ i, 0 ≤ i ∧ i < k ∧ pgP ht nt ph i = p := by
  revert hp
  refine zind (P := fun k => (0 ≤ p ∧ p < pgC ht nt ph k) → ∃ i, 0 ≤ i ∧ i < k ∧ pgP ht nt ph i = p) (fun hp => ?_) (fun k hk0 ih hp => ?_) k h0
  · have := (pg_0 ht nt ph).1
    omega
  · by_cases q : p < pgC ht nt ph k
    · obtain ⟨i, a, b, c⟩ := ih ⟨hp.1, q⟩
      exact ⟨i, a, by omega, c⟩
    · refine ⟨k, hk0, by omega, ?_⟩
      unfold pgP
      rcases pg_s (ht := ht) (nt := nt) (ph := ph) hk0 with ⟨-, e1, -, -⟩ | ⟨-, e1, -, -⟩ <;> omega
end PG
-- the first and the last place of a value
def isF (P : Int → Int) (p g j : Int) : Prop := (0 ≤ j ∧ j < g) ∧ P j = p ∧ ∀ i, 0 ≤ i → i < j → ¬ P i = p
def isL (P : Int → Int) (p g j : Int) : Prop := (0 ≤ j ∧ j < g) ∧ P j = p ∧ ∀ i, j < i → i < g → ¬ P i = p
theorem ex_F {P : Int → Int} {p g : Int} (h : ∃ i, 0 ≤ i ∧ i < g ∧ P i = p) : ∃ j, isF P p g j := by
  obtain ⟨i, h0, h1, h2⟩ := h
  have key : ∀ k : Int, 0 ≤ k → (∃ j, isF P p k j) ∨ ∀ i, 0 ≤ i → i < k → ¬ P i = p := by
    intro k hk
    refine zind (P := fun k => (∃ j, isF P p k j) ∨ ∀ i, 0 ≤ i → i < k → ¬ P i = p) (Or.inr (fun i a b => by omega)) (fun k hk ih => ?_) k hk
    rcases ih with ⟨j, a, b, c⟩ | hno
    · exact Or.inl ⟨j, by omega, b, c⟩
    · by_cases q : P k = p
      · exact Or.inl ⟨k, by omega, q, hno⟩
      · refine Or.inr (fun i a b => ?_)
        by_cases z : i = k
        · rw [z]; exact q
        · exact hno i a (by omega)
  rcases key g (by omega) with h | h
  · exact h
  · exact absurd h2 (h i h0 h1)
theorem ex_L {P : Int → Int} {p g : Int} (h : ∃ i, 0 ≤ i ∧ i < g ∧ P i = p) : ∃ j, isL P p g j := by
  obtain ⟨i, h0, h1, h2⟩ := h
  have key : ∀ k : Int, 0 ≤ k → (∃ j, isL P p k j) ∨ ∀ i, 0 ≤ i → i < k → ¬ P i = p := by
    intro k hk
    refine zind (P := fun k => (∃ j, isL P p k j) ∨ ∀ i, 0 ≤ i → i < k → ¬ P i = p) (Or.inr (fun i a b => by omega)) (fun k hk ih => ?_) k hk
    by_cases q : P k = p
    · exact Or.inl ⟨k, by omega, q, fun i a b => by omega⟩
    · rcases ih with ⟨j, a, b, c⟩ | hno
      · refine Or.inl ⟨j, by omega, b, fun i x y => ?_⟩
        by_cases z : i = k
        · rw [z]; exact q
        · exact c i x (by omega)
      · refine Or.inr (fun i a b => ?_)
        by_cases z : i = k
        · rw [z]; exact q
        · exact hno i a (by omega)
  rcases key g (by omega) with h | h
  · exact h
  · exact absurd h2 (h i h0 h1)
-- the class: what it answers of pages
section PC
variable {pn P : Int → Int} {g p : Int}
theorem f3_pageOf {a : Int} (h : 0 ≤ a ∧ a < 120) : pX3_pageOf (cz pn) (I a) = some (I (pn a)) := by
  unfold pX3_pageOf
  rw [f9_cellOf (by omega), at0_in (by omega)]
  rfl
theorem f3_heightOf {a : Int} (h : 0 ≤ a ∧ a < 120) : pX3_heightOf (cz pn) (I a) = some (I (pn a)) := f3_pageOf h
theorem f3_lineOf {a : Int} (h : 0 ≤ a ∧ a < 120) : pX3_lineOf (cz pn) (I a) = some (I (pn a)) := f3_pageOf h
theorem f3_notesOf {a : Int} (h : 0 ≤ a ∧ a < 120) : pX3_notesOf (cz pn) (I a) = some (I (pn a)) := f3_pageOf h
theorem f3_firstGroupOf_L {j : Int} (hg : 0 ≤ g ∧ g ≤ 120) (hp : 0 ≤ p ∧ p ≤ 1000) (hb : ∀ i, 0 ≤ i → i < g → 0 ≤ pn i ∧ pn i ≤ 1000) (hj : isF pn p g j) : ∀ (m : Nat) (k : Int), 0 ≤ k → k ≤ j → j - k < m → pX3_firstGroupOf_L2 (cz pn) (I g) m (I p) (I k) = some (I j) := by
  obtain ⟨j0, j1, j2⟩ := hj
  intro m
  induction m with
  | zero => intro k h0 h1 h2; omega
  | succ m ih =>
    intro k h0 h1 h2
    show pX3_firstGroupOf_bL2 _ _ _ _ _ = _
    unfold pX3_firstGroupOf_bL2
    have h3 := hb k h0 (by omega)
    rw [f3_pageOf (by omega)]
    simp (disch := omega) only [if_true, if_false, I_add, I_sub, I_mul, I_neg, I_ofNat, Option.bind_some, kIn, I_l0, I_l1, I_l2, I_l3, I_l4, I_l5, I_l6, I_l7, I_l8, I_l9, I_l10, I_l11, I_l12, I_l13, I_l40, I_l43, I_l44, I_l45, I_l48, I_l57, I_l58, I_l60, I_l61, I_l62, I_l79, I_l80, I_l100, I_l101, I_l120, I_l200, I_l201, I_l1999, I_l2000, I_l2001, I_le, I_eq, if_neg]
    by_cases q : k = j
    · rw [q, if_pos j1]
    · rw [if_neg (j2 k h0 (by omega))]
      exact ih (k + 1) (by omega) (by omega) (by omega)
theorem f3_firstGroupOf {j : Int} (hg : 0 ≤ g ∧ g ≤ 120) (hp : 0 ≤ p ∧ p ≤ 1000) (hb : ∀ i, 0 ≤ i → i < g → 0 ≤ pn i ∧ pn i ≤ 1000) (hj : isF pn p g j) : pX3_firstGroupOf (cz pn) (I g) (I p) = some (I j) := by
  unfold pX3_firstGroupOf
  simp only [if_true, if_false, I_add, I_sub, I_mul, I_neg, I_ofNat, Option.bind_some, kIn, I_l0, I_l1, I_l2, I_l3, I_l4, I_l5, I_l6, I_l7, I_l8, I_l9, I_l10, I_l11, I_l12, I_l13, I_l40, I_l43, I_l44, I_l45, I_l48, I_l57, I_l58, I_l60, I_l61, I_l62, I_l79, I_l80, I_l100, I_l101, I_l120, I_l200, I_l201, I_l1999, I_l2000, I_l2001]
  have := hj.1
  exact f3_firstGroupOf_L hg hp hb hj 4000 0 (by omega) (by omega) (by omega)
theorem f3_lastGroupOf_L {j : Int} (hg : 0 ≤ g ∧ g ≤ 120) (hp : 0 ≤ p ∧ p ≤ 1000) (hb : ∀ i, 0 ≤ i → i < g → 0 ≤ pn i ∧ pn i ≤ 1000) (hj : isL pn p g j) : ∀ (m : Nat) (k : Int), k < g → j ≤ k → k - j < m → pX3_lastGroupOf_L7 (cz pn) (I g) m (I p) (I k) = some (I j) := by
  obtain ⟨j0, j1, j2⟩ := hj
  intro m
  induction m with
  | zero => intro k h0 h1 h2; omega
  | succ m ih =>
    intro k h0 h1 h2
    show pX3_lastGroupOf_bL7 _ _ _ _ _ = _
    unfold pX3_lastGroupOf_bL7
    have h3 := hb k (by omega) (by omega)
    rw [f3_pageOf (by omega)]
    simp (disch := omega) only [if_true, if_false, I_add, I_sub, I_mul, I_neg, I_ofNat, Option.bind_some, kIn, I_l0, I_l1, I_l2, I_l3, I_l4, I_l5, I_l6, I_l7, I_l8, I_l9, I_l10, I_l11, I_l12, I_l13, I_l40, I_l43, I_l44, I_l45, I_l48, I_l57, I_l58, I_l60, I_l61, I_l62, I_l79, I_l80, I_l100, I_l101, I_l120, I_l200, I_l201, I_l1999, I_l2000, I_l2001, I_lt, I_eq, if_neg]
    by_cases q : k = j
    · rw [q, if_pos j1]
    · rw [if_neg (j2 k (by omega) (by omega))]
      exact ih (k + -1) (by omega) (by omega) (by omega)
theorem f3_lastGroupOf {j : Int} (hg : 0 ≤ g ∧ g ≤ 120) (hp : 0 ≤ p ∧ p ≤ 1000) (hb : ∀ i, 0 ≤ i → i < g → 0 ≤ pn i ∧ pn i ≤ 1000) (hj : isL pn p g j) : pX3_lastGroupOf (cz pn) (I g) (I p) = some (I j) := by
  unfold pX3_lastGroupOf
  simp only [if_true, if_false, I_add, I_sub, I_mul, I_neg, I_ofNat, Option.bind_some, kIn, I_l0, I_l1, I_l2, I_l3, I_l4, I_l5, I_l6, I_l7, I_l8, I_l9, I_l10, I_l11, I_l12, I_l13, I_l40, I_l43, I_l44, I_l45, I_l48, I_l57, I_l58, I_l60, I_l61, I_l62, I_l79, I_l80, I_l100, I_l101, I_l120, I_l200, I_l201, I_l1999, I_l2000, I_l2001]
  have := hj.1
  exact f3_lastGroupOf_L hg hp hb hj 4000 (g - 1) (by omega) (by omega) (by omega)
theorem f3_heightSumOf_L {hc : Int → Int} (hg : 0 ≤ g ∧ g ≤ 120) (hp : 0 ≤ p ∧ p ≤ 1000) (hb : ∀ i, 0 ≤ i → i < g → 0 ≤ pn i ∧ pn i ≤ 1000) : ∀ (m : Nat) (s k : Int), 0 ≤ k → k ≤ g → g - k < m → s = psm pn hc p k → pX3_heightSumOf_L4 (cz hc) (cz pn) (I g) m (I p) (I s) (I k) = some (I (psm pn hc p g)) := by
  intro m
  induction m with
  | zero => intro s k h0 h1 h2; omega
  | succ m ih =>
    intro s k h0 h1 h2 hs
    show pX3_heightSumOf_bL4 _ _ _ _ _ _ _ = _
    unfold pX3_heightSumOf_bL4 pX3_heightSumOf_j31
    by_cases q : k = g
    · subst q
      simp (disch := omega) only [if_true, if_false, I_add, I_sub, I_mul, I_neg, I_ofNat, Option.bind_some, kIn, I_l0, I_l1, I_l2, I_l3, I_l4, I_l5, I_l6, I_l7, I_l8, I_l9, I_l10, I_l11, I_l12, I_l13, I_l40, I_l43, I_l44, I_l45, I_l48, I_l57, I_l58, I_l60, I_l61, I_l62, I_l79, I_l80, I_l100, I_l101, I_l120, I_l200, I_l201, I_l1999, I_l2000, I_l2001, I_le, if_pos]
      rw [hs]
    · have h3 := hb k h0 (by omega)
      have e := psm_s (P := pn) (F := hc) (p := p) h0
      rw [f3_pageOf (by omega), f3_heightOf (by omega)]
      simp (disch := omega) only [if_true, if_false, I_add, I_sub, I_mul, I_neg, I_ofNat, Option.bind_some, kIn, I_l0, I_l1, I_l2, I_l3, I_l4, I_l5, I_l6, I_l7, I_l8, I_l9, I_l10, I_l11, I_l12, I_l13, I_l40, I_l43, I_l44, I_l45, I_l48, I_l57, I_l58, I_l60, I_l61, I_l62, I_l79, I_l80, I_l100, I_l101, I_l120, I_l200, I_l201, I_l1999, I_l2000, I_l2001, I_le, I_eq, if_neg]
      by_cases q2 : pn k = p
      · rw [if_pos q2] at e ⊢
        exact ih _ _ (by omega) (by omega) (by omega) (by omega)
      · rw [if_neg q2] at e ⊢
        exact ih _ _ (by omega) (by omega) (by omega) (by omega)
theorem f3_heightSumOf {hc : Int → Int} (hg : 0 ≤ g ∧ g ≤ 120) (hp : 0 ≤ p ∧ p ≤ 1000) (hb : ∀ i, 0 ≤ i → i < g → 0 ≤ pn i ∧ pn i ≤ 1000) : pX3_heightSumOf (cz hc) (cz pn) (I g) (I p) = some (I (psm pn hc p g)) := by
  unfold pX3_heightSumOf
  simp only [if_true, if_false, I_add, I_sub, I_mul, I_neg, I_ofNat, Option.bind_some, kIn, I_l0, I_l1, I_l2, I_l3, I_l4, I_l5, I_l6, I_l7, I_l8, I_l9, I_l10, I_l11, I_l12, I_l13, I_l40, I_l43, I_l44, I_l45, I_l48, I_l57, I_l58, I_l60, I_l61, I_l62, I_l79, I_l80, I_l100, I_l101, I_l120, I_l200, I_l201, I_l1999, I_l2000, I_l2001]
  exact f3_heightSumOf_L hg hp hb 4000 0 0 (by omega) (by omega) (by omega) rfl
theorem f3_noteLinesOf_L {hc : Int → Int} (hg : 0 ≤ g ∧ g ≤ 120) (hp : 0 ≤ p ∧ p ≤ 1000) (hb : ∀ i, 0 ≤ i → i < g → 0 ≤ pn i ∧ pn i ≤ 1000) (hn : ∀ i, 0 ≤ i → i < g → 0 ≤ hc i ∧ hc i ≤ 1000000) : ∀ (m : Nat) (s k : Int), 0 ≤ k → k ≤ g → g - k < m → s = psm pn hc p k → pX3_noteLinesOf_L4 (cz hc) (cz pn) (I g) m (I p) (I s) (I k) = some (I (wl (psm pn hc p g))) := by
  intro m
  induction m with
  | zero => intro s k h0 h1 h2; omega
  | succ m ih =>
    intro s k h0 h1 h2 hs
    show pX3_noteLinesOf_bL4 _ _ _ _ _ _ _ = _
    unfold pX3_noteLinesOf_bL4 pX3_noteLinesOf_j31
    by_cases q : k = g
    · subst q
      have b := psm_bd (P := pn) (F := hc) (p := p) (c := 1000000) h0 (by omega) hn
      simp (disch := omega) only [if_true, if_false, I_add, I_sub, I_mul, I_neg, I_ofNat, Option.bind_some, kIn, I_l0, I_l1, I_l2, I_l3, I_l4, I_l5, I_l6, I_l7, I_l8, I_l9, I_l10, I_l11, I_l12, I_l13, I_l40, I_l43, I_l44, I_l45, I_l48, I_l57, I_l58, I_l60, I_l61, I_l62, I_l79, I_l80, I_l100, I_l101, I_l120, I_l200, I_l201, I_l1999, I_l2000, I_l2001, I_le, if_pos]
      rw [f3_withRule (by omega), hs]
      rfl
    · have h3 := hb k h0 (by omega)
      have e := psm_s (P := pn) (F := hc) (p := p) h0
      rw [f3_pageOf (by omega), f3_notesOf (by omega)]
      simp (disch := omega) only [if_true, if_false, I_add, I_sub, I_mul, I_neg, I_ofNat, Option.bind_some, kIn, I_l0, I_l1, I_l2, I_l3, I_l4, I_l5, I_l6, I_l7, I_l8, I_l9, I_l10, I_l11, I_l12, I_l13, I_l40, I_l43, I_l44, I_l45, I_l48, I_l57, I_l58, I_l60, I_l61, I_l62, I_l79, I_l80, I_l100, I_l101, I_l120, I_l200, I_l201, I_l1999, I_l2000, I_l2001, I_le, I_eq, if_neg]
      by_cases q2 : pn k = p
      · rw [if_pos q2] at e ⊢
        exact ih _ _ (by omega) (by omega) (by omega) (by omega)
      · rw [if_neg q2] at e ⊢
        exact ih _ _ (by omega) (by omega) (by omega) (by omega)
theorem f3_noteLinesOf {hc : Int → Int} (hg : 0 ≤ g ∧ g ≤ 120) (hp : 0 ≤ p ∧ p ≤ 1000) (hb : ∀ i, 0 ≤ i → i < g → 0 ≤ pn i ∧ pn i ≤ 1000) (hn : ∀ i, 0 ≤ i → i < g → 0 ≤ hc i ∧ hc i ≤ 1000000) : pX3_noteLinesOf (cz hc) (cz pn) (I g) (I p) = some (I (wl (psm pn hc p g))) := by
  unfold pX3_noteLinesOf
  simp only [if_true, if_false, I_add, I_sub, I_mul, I_neg, I_ofNat, Option.bind_some, kIn, I_l0, I_l1, I_l2, I_l3, I_l4, I_l5, I_l6, I_l7, I_l8, I_l9, I_l10, I_l11, I_l12, I_l13, I_l40, I_l43, I_l44, I_l45, I_l48, I_l57, I_l58, I_l60, I_l61, I_l62, I_l79, I_l80, I_l100, I_l101, I_l120, I_l200, I_l201, I_l1999, I_l2000, I_l2001]
  exact f3_noteLinesOf_L hg hp hb hn 4000 0 0 (by omega) (by omega) (by omega) rfl
theorem f3_overflows {hc nc : Int → Int} {ph : Int} (hg : 0 ≤ g ∧ g ≤ 120) (hp : 0 ≤ p ∧ p ≤ 1000) (hph : 0 ≤ ph ∧ ph ≤ 100000) (hb : ∀ i, 0 ≤ i → i < g → 0 ≤ pn i ∧ pn i ≤ 1000) (hh : ∀ i, 0 ≤ i → i < g → 0 ≤ hc i ∧ hc i ≤ 1000000) (hn : ∀ i, 0 ≤ i → i < g → 0 ≤ nc i ∧ nc i ≤ 1000000) : pX3_overflows (I ph) (cz hc) (cz nc) (cz pn) (I g) (I p) = some (I (if psm pn hc p g + wl (psm pn nc p g) ≤ ph then 0 else 1)) := by
  unfold pX3_overflows
  have b1 := psm_bd (P := pn) (F := hc) (p := p) (c := 1000000) hg.1 (by omega) hh
  have b2 := psm_bd (P := pn) (F := nc) (p := p) (c := 1000000) hg.1 (by omega) hn
  have b3 := wl_bd b2.1
  rw [f3_heightSumOf hg hp hb, f3_noteLinesOf hg hp hb hn]
  simp (disch := omega) only [if_true, if_false, I_add, I_sub, I_mul, I_neg, I_ofNat, Option.bind_some, kIn, I_l0, I_l1, I_l2, I_l3, I_l4, I_l5, I_l6, I_l7, I_l8, I_l9, I_l10, I_l11, I_l12, I_l13, I_l40, I_l43, I_l44, I_l45, I_l48, I_l57, I_l58, I_l60, I_l61, I_l62, I_l79, I_l80, I_l100, I_l101, I_l120, I_l200, I_l201, I_l1999, I_l2000, I_l2001, I_le]
  split <;> rfl
end PC

