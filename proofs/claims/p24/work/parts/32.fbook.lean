-- out of 32.fbook
-- the book's methods
theorem f0_has {n a : Int} (h : (0 ≤ n ∧ n ≤ 60) ∧ -2147483648 ≤ a ∧ a ≤ 2147483647) : pX0_has (I n) (I a) = some (I (if 0 ≤ a ∧ a < n then 1 else 0)) := by
  unfold pX0_has
  simp (disch := omega) only [if_true, if_false, I_add, I_sub, I_mul, I_neg, I_ofNat, Option.bind_some, kIn, I_l0, I_l1, I_l2, I_l3, I_l4, I_l5, I_l6, I_l7, I_l8, I_l9, I_l10, I_l11, I_l12, I_l13, I_l40, I_l43, I_l44, I_l45, I_l48, I_l57, I_l58, I_l60, I_l61, I_l62, I_l79, I_l80, I_l100, I_l101, I_l120, I_l200, I_l201, I_l1999, I_l2000, I_l2001, I_le, I_lt]
  repeat' split
  all_goals first | rfl | (exfalso; omega)
theorem f0_hasT {n a : Int} (h : (0 ≤ n ∧ n ≤ 60) ∧ 0 ≤ a ∧ a < n) : pX0_has (I n) (I a) = some (I 1) := by
  rw [f0_has (by omega), if_pos (by omega)]
theorem f0_hasF {n a : Int} (h : (0 ≤ n ∧ n ≤ 60) ∧ (-2147483648 ≤ a ∧ a ≤ 2147483647) ∧ ¬ (0 ≤ a ∧ a < n)) : pX0_has (I n) (I a) = some (I 0) := by
  rw [f0_has (by omega), if_neg (by omega)]
theorem f0_cell {F : Int → Int} {n a : Int} (h : (0 ≤ n ∧ n ≤ 60) ∧ -2147483648 ≤ a ∧ a ≤ 2147483647) : ((pX0_has (I n) (I a)).bind fun q2 => if q2 = 0 then some (0 : Int32) else ((pX9_cellOf 60 (cz F) (I a)).bind fun q4 => some q4)) = some (I (at0 F n a)) := by
  by_cases g : 0 ≤ a ∧ a < n
  · rw [f0_hasT (by omega), f9_cellOf (by omega), at0_in (by omega), at0_in (by omega)]
    simp (disch := omega) only [if_true, if_false, I_add, I_sub, I_mul, I_neg, I_ofNat, Option.bind_some, kIn, I_l0, I_l1, I_l2, I_l3, I_l4, I_l5, I_l6, I_l7, I_l8, I_l9, I_l10, I_l11, I_l12, I_l13, I_l40, I_l43, I_l44, I_l45, I_l48, I_l57, I_l58, I_l60, I_l61, I_l62, I_l79, I_l80, I_l100, I_l101, I_l120, I_l200, I_l201, I_l1999, I_l2000, I_l2001, I_le, I_lt, I_eq, I_toInt, cz_at, cz_up, if_pos, if_neg]
  · rw [f0_hasF (by omega), at0_out g]
    simp (disch := omega) only [if_true, if_false, I_add, I_sub, I_mul, I_neg, I_ofNat, Option.bind_some, kIn, I_l0, I_l1, I_l2, I_l3, I_l4, I_l5, I_l6, I_l7, I_l8, I_l9, I_l10, I_l11, I_l12, I_l13, I_l40, I_l43, I_l44, I_l45, I_l48, I_l57, I_l58, I_l60, I_l61, I_l62, I_l79, I_l80, I_l100, I_l101, I_l120, I_l200, I_l201, I_l1999, I_l2000, I_l2001, I_le, I_lt, I_eq, I_toInt, cz_at, cz_up, if_pos, if_neg]
theorem f0_chapterOf {c : Int → Int} {n a : Int} (h : (0 ≤ n ∧ n ≤ 60) ∧ -2147483648 ≤ a ∧ a ≤ 2147483647) : pX0_chapterOf (cz c) (I n) (I a) = some (I (at0 c n a)) := f0_cell h
theorem f0_lettersOf {c : Int → Int} {n a : Int} (h : (0 ≤ n ∧ n ≤ 60) ∧ -2147483648 ≤ a ∧ a ≤ 2147483647) : pX0_lettersOf (cz c) (I n) (I a) = some (I (at0 c n a)) := f0_cell h
theorem f0_noteOf {c : Int → Int} {n a : Int} (h : (0 ≤ n ∧ n ≤ 60) ∧ -2147483648 ≤ a ∧ a ≤ 2147483647) : pX0_noteOf (cz c) (I n) (I a) = some (I (at0 c n a)) := f0_cell h
theorem f0_chapterTotal {c : Int → Int} {n : Int} (h : 0 ≤ n ∧ n ≤ 60) : pX0_chapterTotal (cz c) (I n) = some (I (at0 c n (n - 1))) := by
  unfold pX0_chapterTotal
  simp only [if_true, if_false, I_add, I_sub, I_mul, I_neg, I_ofNat, Option.bind_some, kIn, I_l0, I_l1, I_l2, I_l3, I_l4, I_l5, I_l6, I_l7, I_l8, I_l9, I_l10, I_l11, I_l12, I_l13, I_l40, I_l43, I_l44, I_l45, I_l48, I_l57, I_l58, I_l60, I_l61, I_l62, I_l79, I_l80, I_l100, I_l101, I_l120, I_l200, I_l201, I_l1999, I_l2000, I_l2001]
  rw [f0_chapterOf (by omega), Option.bind_some]
def opc (c : Int → Int) (n a : Int) : Prop := (0 ≤ a ∧ a < n) ∧ ¬ at0 c n a = at0 c n (a - 1)
theorem f0_opensChapter {c : Int → Int} {n a : Int} (h : (0 ≤ n ∧ n ≤ 60) ∧ 0 ≤ a ∧ a < n) (hc : ∀ i, 0 ≤ i → i < n → 1 ≤ c i ∧ c i ≤ 100000) : pX0_opensChapter (cz c) (I n) (I a) = some (I (if a = 0 ∨ ¬ c a = c (a - 1) then 1 else 0)) := by
  unfold pX0_opensChapter
  have h1 := hc a (by omega) (by omega)
  rw [f0_hasT (by omega)]
  simp only [if_true, if_false, I_add, I_sub, I_mul, I_neg, I_ofNat, Option.bind_some, kIn, I_l0, I_l1, I_l2, I_l3, I_l4, I_l5, I_l6, I_l7, I_l8, I_l9, I_l10, I_l11, I_l12, I_l13, I_l40, I_l43, I_l44, I_l45, I_l48, I_l57, I_l58, I_l60, I_l61, I_l62, I_l79, I_l80, I_l100, I_l101, I_l120, I_l200, I_l201, I_l1999, I_l2000, I_l2001]
  rw [f0_chapterOf (by omega), f0_chapterOf (by omega), at0_in (by omega)]
  by_cases g : a = 0
  · rw [at0_out (by omega), if_pos (Or.inl g)]
    simp (disch := omega) only [if_true, if_false, I_add, I_sub, I_mul, I_neg, I_ofNat, Option.bind_some, kIn, I_l0, I_l1, I_l2, I_l3, I_l4, I_l5, I_l6, I_l7, I_l8, I_l9, I_l10, I_l11, I_l12, I_l13, I_l40, I_l43, I_l44, I_l45, I_l48, I_l57, I_l58, I_l60, I_l61, I_l62, I_l79, I_l80, I_l100, I_l101, I_l120, I_l200, I_l201, I_l1999, I_l2000, I_l2001, I_le, I_lt, I_eq, I_toInt, cz_at, cz_up, if_pos, if_neg]
  · have h2 := hc (a - 1) (by omega) (by omega)
    rw [at0_in (by omega)]
    simp (disch := omega) only [if_true, if_false, I_add, I_sub, I_mul, I_neg, I_ofNat, Option.bind_some, kIn, I_l0, I_l1, I_l2, I_l3, I_l4, I_l5, I_l6, I_l7, I_l8, I_l9, I_l10, I_l11, I_l12, I_l13, I_l40, I_l43, I_l44, I_l45, I_l48, I_l57, I_l58, I_l60, I_l61, I_l62, I_l79, I_l80, I_l100, I_l101, I_l120, I_l200, I_l201, I_l1999, I_l2000, I_l2001, I_le, I_lt, I_eq, I_toInt, cz_at, cz_up, if_pos, if_neg]
    by_cases g2 : c a = c (a - 1)
    · rw [if_pos g2, if_neg (by omega)]
    · rw [if_neg g2, if_pos (by omega)]
theorem f0_firstOf_L {c : Int → Int} {n x j : Int} (hn : (0 ≤ n ∧ n ≤ 60) ∧ 0 ≤ j ∧ j < n) (hx : -2147483648 ≤ x ∧ x ≤ 2147483647) (hc : ∀ i, 0 ≤ i → i < n → -100000 ≤ c i ∧ c i ≤ 100000) (hj : c j = x) (hf : ∀ i, 0 ≤ i → i < j → ¬ c i = x) : ∀ (m : Nat) (k : Int), 0 ≤ k → k ≤ j → j - k < m → pX0_firstOf_L2 (cz c) (I n) m (I x) (I k) = some (I j) := by
  intro m
  induction m with
  | zero => intro k h0 h1 h2; omega
  | succ m ih =>
    intro k h0 h1 h2
    show pX0_firstOf_bL2 _ _ _ _ _ = _
    unfold pX0_firstOf_bL2
    have h3 := hc k h0 (by omega)
    simp (disch := omega) only [if_true, if_false, I_add, I_sub, I_mul, I_neg, I_ofNat, Option.bind_some, kIn, I_l0, I_l1, I_l2, I_l3, I_l4, I_l5, I_l6, I_l7, I_l8, I_l9, I_l10, I_l11, I_l12, I_l13, I_l40, I_l43, I_l44, I_l45, I_l48, I_l57, I_l58, I_l60, I_l61, I_l62, I_l79, I_l80, I_l100, I_l101, I_l120, I_l200, I_l201, I_l1999, I_l2000, I_l2001, I_le, I_lt, I_eq, I_toInt, cz_at, cz_up, if_pos, if_neg, f9_cellOf, at0_in]
    by_cases g : k = j
    · subst g
      rw [if_pos hj]
    · rw [if_neg (hf k h0 (by omega))]
      exact ih (k + 1) (by omega) (by omega) (by omega)
theorem f0_firstOf {c : Int → Int} {n x j : Int} (hn : (0 ≤ n ∧ n ≤ 60) ∧ 0 ≤ j ∧ j < n) (hx : -2147483648 ≤ x ∧ x ≤ 2147483647) (hc : ∀ i, 0 ≤ i → i < n → -100000 ≤ c i ∧ c i ≤ 100000) (hj : c j = x) (hf : ∀ i, 0 ≤ i → i < j → ¬ c i = x) : pX0_firstOf (cz c) (I n) (I x) = some (I j) := by
  unfold pX0_firstOf
  simp only [if_true, if_false, I_add, I_sub, I_mul, I_neg, I_ofNat, Option.bind_some, kIn, I_l0, I_l1, I_l2, I_l3, I_l4, I_l5, I_l6, I_l7, I_l8, I_l9, I_l10, I_l11, I_l12, I_l13, I_l40, I_l43, I_l44, I_l45, I_l48, I_l57, I_l58, I_l60, I_l61, I_l62, I_l79, I_l80, I_l100, I_l101, I_l120, I_l200, I_l201, I_l1999, I_l2000, I_l2001]
  exact f0_firstOf_L hn hx hc hj hf 4000 0 (by omega) (by omega) (by omega)
def b01 (p : Prop) [Decidable p] : Int := if p then 1 else 0
theorem b01_bd (p : Prop) [Decidable p] : 0 ≤ b01 p ∧ b01 p ≤ 1 := by unfold b01; split <;> omega
-- how many of the first have a value
def cnt (c : Int → Int) (x n : Int) : Int := Sm (fun i => if c i = x then 1 else 0) n
theorem cnt_bd {c : Int → Int} {x n : Int} (hn : 0 ≤ n) : 0 ≤ cnt c x n ∧ cnt c x n ≤ n := by
  have h1 := Sm_nn (F := fun i => if c i = x then 1 else 0) hn (fun i _ _ => by show (0 : Int) ≤ if c i = x then 1 else 0; split <;> omega)
  have h2 := Sm_hi (F := fun i => if c i = x then 1 else 0) (c := 1) hn (fun i _ _ => by show (if c i = x then 1 else 0 : Int) ≤ 1; split <;> omega)
  unfold cnt; omega
theorem f0_versesOf_L {c : Int → Int} {n x : Int} (hn : 0 ≤ n ∧ n ≤ 60) (hx : -2147483648 ≤ x ∧ x ≤ 2147483647) (hc : ∀ i, 0 ≤ i → i < n → -100000 ≤ c i ∧ c i ≤ 100000) : ∀ (m : Nat) (s k : Int), 0 ≤ k → k ≤ n → n - k < m → s = cnt c x k → pX0_versesOf_L4 (cz c) (I n) m (I x) (I s) (I k) = some (I (cnt c x n)) := by
  intro m
  induction m with
  | zero => intro s k h0 h1 h2; omega
  | succ m ih =>
    intro s k h0 h1 h2 hs
    show pX0_versesOf_bL4 _ _ _ _ _ _ = _
    unfold pX0_versesOf_bL4 pX0_versesOf_j30
    by_cases g : k = n
    · subst g
      simp (disch := omega) only [if_true, if_false, I_add, I_sub, I_mul, I_neg, I_ofNat, Option.bind_some, kIn, I_l0, I_l1, I_l2, I_l3, I_l4, I_l5, I_l6, I_l7, I_l8, I_l9, I_l10, I_l11, I_l12, I_l13, I_l40, I_l43, I_l44, I_l45, I_l48, I_l57, I_l58, I_l60, I_l61, I_l62, I_l79, I_l80, I_l100, I_l101, I_l120, I_l200, I_l201, I_l1999, I_l2000, I_l2001, I_le, I_lt, I_eq, I_toInt, cz_at, cz_up, if_pos, if_neg]
      rw [hs]
    · have h3 := hc k h0 (by omega)
      have e : cnt c x (k + 1) = cnt c x k + (if c k = x then 1 else 0) := Sm_s h0
      simp (disch := omega) only [if_true, if_false, I_add, I_sub, I_mul, I_neg, I_ofNat, Option.bind_some, kIn, I_l0, I_l1, I_l2, I_l3, I_l4, I_l5, I_l6, I_l7, I_l8, I_l9, I_l10, I_l11, I_l12, I_l13, I_l40, I_l43, I_l44, I_l45, I_l48, I_l57, I_l58, I_l60, I_l61, I_l62, I_l79, I_l80, I_l100, I_l101, I_l120, I_l200, I_l201, I_l1999, I_l2000, I_l2001, I_le, I_lt, I_eq, I_toInt, cz_at, cz_up, if_pos, if_neg, f9_cellOf, at0_in]
      by_cases g2 : c k = x
      · rw [if_pos g2] at e ⊢
        exact ih _ _ (by omega) (by omega) (by omega) (by omega)
      · rw [if_neg g2] at e ⊢
        exact ih _ _ (by omega) (by omega) (by omega) (by omega)
theorem f0_versesOf {c : Int → Int} {n x : Int} (hn : 0 ≤ n ∧ n ≤ 60) (hx : -2147483648 ≤ x ∧ x ≤ 2147483647) (hc : ∀ i, 0 ≤ i → i < n → -100000 ≤ c i ∧ c i ≤ 100000) : pX0_versesOf (cz c) (I n) (I x) = some (I (cnt c x n)) := by
  unfold pX0_versesOf
  simp only [if_true, if_false, I_add, I_sub, I_mul, I_neg, I_ofNat, Option.bind_some, kIn, I_l0, I_l1, I_l2, I_l3, I_l4, I_l5, I_l6, I_l7, I_l8, I_l9, I_l10, I_l11, I_l12, I_l13, I_l40, I_l43, I_l44, I_l45, I_l48, I_l57, I_l58, I_l60, I_l61, I_l62, I_l79, I_l80, I_l100, I_l101, I_l120, I_l200, I_l201, I_l1999, I_l2000, I_l2001]
  exact f0_versesOf_L hn hx hc 4000 0 0 (by omega) (by omega) (by omega) rfl
-- the sum of those that have a value
def cns (c l : Int → Int) (x n : Int) : Int := Sm (fun i => if c i = x then l i else 0) n
theorem f0_letterSumOf_L {c l : Int → Int} {n x : Int} (hn : 0 ≤ n ∧ n ≤ 60) (hx : -2147483648 ≤ x ∧ x ≤ 2147483647) (hc : ∀ i, 0 ≤ i → i < n → -100000 ≤ c i ∧ c i ≤ 100000) : ∀ (m : Nat) (s k : Int), 0 ≤ k → k ≤ n → n - k < m → s = cns c l x k → pX0_letterSumOf_L4 (cz c) (cz l) (I n) m (I x) (I s) (I k) = some (I (cns c l x n)) := by
  intro m
  induction m with
  | zero => intro s k h0 h1 h2; omega
  | succ m ih =>
    intro s k h0 h1 h2 hs
    show pX0_letterSumOf_bL4 _ _ _ _ _ _ _ = _
    unfold pX0_letterSumOf_bL4 pX0_letterSumOf_j37
    by_cases g : k = n
    · subst g
      simp (disch := omega) only [if_true, if_false, I_add, I_sub, I_mul, I_neg, I_ofNat, Option.bind_some, kIn, I_l0, I_l1, I_l2, I_l3, I_l4, I_l5, I_l6, I_l7, I_l8, I_l9, I_l10, I_l11, I_l12, I_l13, I_l40, I_l43, I_l44, I_l45, I_l48, I_l57, I_l58, I_l60, I_l61, I_l62, I_l79, I_l80, I_l100, I_l101, I_l120, I_l200, I_l201, I_l1999, I_l2000, I_l2001, I_le, I_lt, I_eq, I_toInt, cz_at, cz_up, if_pos, if_neg]
      rw [hs]
    · have h3 := hc k h0 (by omega)
      have e : cns c l x (k + 1) = cns c l x k + (if c k = x then l k else 0) := Sm_s h0
      simp (disch := omega) only [if_true, if_false, I_add, I_sub, I_mul, I_neg, I_ofNat, Option.bind_some, kIn, I_l0, I_l1, I_l2, I_l3, I_l4, I_l5, I_l6, I_l7, I_l8, I_l9, I_l10, I_l11, I_l12, I_l13, I_l40, I_l43, I_l44, I_l45, I_l48, I_l57, I_l58, I_l60, I_l61, I_l62, I_l79, I_l80, I_l100, I_l101, I_l120, I_l200, I_l201, I_l1999, I_l2000, I_l2001, I_le, I_lt, I_eq, I_toInt, cz_at, cz_up, if_pos, if_neg, f9_cellOf, at0_in]
      by_cases g2 : c k = x
      · rw [if_pos g2] at e ⊢
        exact ih _ _ (by omega) (by omega) (by omega) (by omega)
      · rw [if_neg g2] at e ⊢
        exact ih _ _ (by omega) (by omega) (by omega) (by omega)
theorem f0_letterSumOf {c l : Int → Int} {n x : Int} (hn : 0 ≤ n ∧ n ≤ 60) (hx : -2147483648 ≤ x ∧ x ≤ 2147483647) (hc : ∀ i, 0 ≤ i → i < n → -100000 ≤ c i ∧ c i ≤ 100000) : pX0_letterSumOf (cz c) (cz l) (I n) (I x) = some (I (cns c l x n)) := by
  unfold pX0_letterSumOf
  simp only [if_true, if_false, I_add, I_sub, I_mul, I_neg, I_ofNat, Option.bind_some, kIn, I_l0, I_l1, I_l2, I_l3, I_l4, I_l5, I_l6, I_l7, I_l8, I_l9, I_l10, I_l11, I_l12, I_l13, I_l40, I_l43, I_l44, I_l45, I_l48, I_l57, I_l58, I_l60, I_l61, I_l62, I_l79, I_l80, I_l100, I_l101, I_l120, I_l200, I_l201, I_l1999, I_l2000, I_l2001]
  exact f0_letterSumOf_L hn hx hc 4000 0 0 (by omega) (by omega) (by omega) rfl
theorem f0_numberOf {c : Int → Int} {n a j : Int} (hn : (0 ≤ n ∧ n ≤ 60) ∧ (0 ≤ j ∧ j < n) ∧ 0 ≤ a ∧ a < n) (hc : ∀ i, 0 ≤ i → i < n → -100000 ≤ c i ∧ c i ≤ 100000) (hj : c j = c a) (hf : ∀ i, 0 ≤ i → i < j → ¬ c i = c a) : pX0_numberOf (cz c) (I n) (I a) = some (I (a - j + 1)) := by
  unfold pX0_numberOf
  have h1 := hc a (by omega) (by omega)
  rw [f0_chapterOf (by omega), at0_in (by omega), Option.bind_some, f0_firstOf (j := j) (by omega) (by omega) hc hj hf]
  simp only [if_true, if_false, I_add, I_sub, I_mul, I_neg, I_ofNat, Option.bind_some, kIn, I_l0, I_l1, I_l2, I_l3, I_l4, I_l5, I_l6, I_l7, I_l8, I_l9, I_l10, I_l11, I_l12, I_l13, I_l40, I_l43, I_l44, I_l45, I_l48, I_l57, I_l58, I_l60, I_l61, I_l62, I_l79, I_l80, I_l100, I_l101, I_l120, I_l200, I_l201, I_l1999, I_l2000, I_l2001]
theorem f0_findN {c : Int → Int} {n x v : Int} (hn : 0 ≤ n ∧ n ≤ 60) (hx : (-2147483648 ≤ x ∧ x ≤ 2147483647) ∧ -2147483648 ≤ v ∧ v ≤ 2147483647) (hc : ∀ i, 0 ≤ i → i < n → -100000 ≤ c i ∧ c i ≤ 100000) (h : ¬ (1 ≤ v ∧ v ≤ cnt c x n)) : pX0_find (cz c) (I n) (I x) (I v) = some (I (-1)) := by
  unfold pX0_find
  have hb := cnt_bd (c := c) (x := x) hn.1
  rw [f0_versesOf hn (by omega) hc]
  simp only [if_true, if_false, I_add, I_sub, I_mul, I_neg, I_ofNat, Option.bind_some, kIn, I_l0, I_l1, I_l2, I_l3, I_l4, I_l5, I_l6, I_l7, I_l8, I_l9, I_l10, I_l11, I_l12, I_l13, I_l40, I_l43, I_l44, I_l45, I_l48, I_l57, I_l58, I_l60, I_l61, I_l62, I_l79, I_l80, I_l100, I_l101, I_l120, I_l200, I_l201, I_l1999, I_l2000, I_l2001]
  rw [f9_isWithin (by omega), if_neg h]
  simp (disch := omega) only [if_true, if_false, I_add, I_sub, I_mul, I_neg, I_ofNat, Option.bind_some, kIn, I_l0, I_l1, I_l2, I_l3, I_l4, I_l5, I_l6, I_l7, I_l8, I_l9, I_l10, I_l11, I_l12, I_l13, I_l40, I_l43, I_l44, I_l45, I_l48, I_l57, I_l58, I_l60, I_l61, I_l62, I_l79, I_l80, I_l100, I_l101, I_l120, I_l200, I_l201, I_l1999, I_l2000, I_l2001, I_le, I_lt, I_eq, I_toInt, cz_at, cz_up, if_pos, if_neg]
theorem f0_findY {c : Int → Int} {n x v j : Int} (hn : (0 ≤ n ∧ n ≤ 60) ∧ 0 ≤ j ∧ j < n) (hx : (-2147483648 ≤ x ∧ x ≤ 2147483647) ∧ -2147483648 ≤ v ∧ v ≤ 2147483647) (hc : ∀ i, 0 ≤ i → i < n → -100000 ≤ c i ∧ c i ≤ 100000) (hj : c j = x) (hf : ∀ i, 0 ≤ i → i < j → ¬ c i = x) (h : 1 ≤ v ∧ v ≤ cnt c x n) : pX0_find (cz c) (I n) (I x) (I v) = some (I (j + v - 1)) := by
  unfold pX0_find
  have hb := cnt_bd (c := c) (x := x) hn.1.1
  rw [f0_versesOf hn.1 (by omega) hc]
  simp only [if_true, if_false, I_add, I_sub, I_mul, I_neg, I_ofNat, Option.bind_some, kIn, I_l0, I_l1, I_l2, I_l3, I_l4, I_l5, I_l6, I_l7, I_l8, I_l9, I_l10, I_l11, I_l12, I_l13, I_l40, I_l43, I_l44, I_l45, I_l48, I_l57, I_l58, I_l60, I_l61, I_l62, I_l79, I_l80, I_l100, I_l101, I_l120, I_l200, I_l201, I_l1999, I_l2000, I_l2001]
  rw [f9_isWithin (by omega), if_pos h, f0_firstOf hn (by omega) hc hj hf]
  simp (disch := omega) only [if_true, if_false, I_add, I_sub, I_mul, I_neg, I_ofNat, Option.bind_some, kIn, I_l0, I_l1, I_l2, I_l3, I_l4, I_l5, I_l6, I_l7, I_l8, I_l9, I_l10, I_l11, I_l12, I_l13, I_l40, I_l43, I_l44, I_l45, I_l48, I_l57, I_l58, I_l60, I_l61, I_l62, I_l79, I_l80, I_l100, I_l101, I_l120, I_l200, I_l201, I_l1999, I_l2000, I_l2001, I_le, I_lt, I_eq, I_toInt, cz_at, cz_up, if_pos, if_neg]
theorem f0_put {l o : Int → Int} {n a x y : Int} (h : (0 ≤ n ∧ n ≤ 60) ∧ 0 ≤ a ∧ a < n) : pX0_put (cz l) (cz o) (I n) (I a) (I x) (I y) = some (cz (up l a x), cz (up o a y)) := by
  unfold pX0_put
  rw [f0_hasT (by omega)]
  simp (disch := omega) only [if_true, if_false, I_add, I_sub, I_mul, I_neg, I_ofNat, Option.bind_some, kIn, I_l0, I_l1, I_l2, I_l3, I_l4, I_l5, I_l6, I_l7, I_l8, I_l9, I_l10, I_l11, I_l12, I_l13, I_l40, I_l43, I_l44, I_l45, I_l48, I_l57, I_l58, I_l60, I_l61, I_l62, I_l79, I_l80, I_l100, I_l101, I_l120, I_l200, I_l201, I_l1999, I_l2000, I_l2001, I_le, I_lt, I_eq, I_toInt, cz_at, cz_up, if_pos, if_neg]
theorem f0_insertAt {c l o : Int → Int} {n a x y z : Int} (h : (0 ≤ n ∧ n < 60) ∧ 0 ≤ a ∧ a ≤ n) : pX0_insertAt (cz c) (cz l) (cz o) (I n) (I a) (I x) (I y) (I z) = some (cz (up (opn c 60 a n) a x), cz (up (opn l 60 a n) a y), cz (up (opn o 60 a n) a z), I (n + 1)) := by
  unfold pX0_insertAt
  rw [f9_openCell (by omega), f9_openCell (by omega), f9_openCell (by omega)]
  simp (disch := omega) only [if_true, if_false, I_add, I_sub, I_mul, I_neg, I_ofNat, Option.bind_some, kIn, I_l0, I_l1, I_l2, I_l3, I_l4, I_l5, I_l6, I_l7, I_l8, I_l9, I_l10, I_l11, I_l12, I_l13, I_l40, I_l43, I_l44, I_l45, I_l48, I_l57, I_l58, I_l60, I_l61, I_l62, I_l79, I_l80, I_l100, I_l101, I_l120, I_l200, I_l201, I_l1999, I_l2000, I_l2001, I_le, I_lt, I_eq, I_toInt, cz_at, cz_up, if_pos, if_neg]
  rw [f0_put (by omega)]
  simp (disch := omega) only [if_true, if_false, I_add, I_sub, I_mul, I_neg, I_ofNat, Option.bind_some, kIn, I_l0, I_l1, I_l2, I_l3, I_l4, I_l5, I_l6, I_l7, I_l8, I_l9, I_l10, I_l11, I_l12, I_l13, I_l40, I_l43, I_l44, I_l45, I_l48, I_l57, I_l58, I_l60, I_l61, I_l62, I_l79, I_l80, I_l100, I_l101, I_l120, I_l200, I_l201, I_l1999, I_l2000, I_l2001, I_le, I_lt, I_eq, I_toInt, cz_at, cz_up, if_pos, if_neg]
  rfl
theorem f0_joinWithNext {c l o : Int → Int} {n a : Int} (h : (0 ≤ n ∧ n ≤ 60) ∧ 0 ≤ a ∧ a + 1 < n) (hl : ∀ i, 0 ≤ i → i < n → -100000 ≤ l i ∧ l i ≤ 100000) (ho : ∀ i, 0 ≤ i → i < n → -100000 ≤ o i ∧ o i ≤ 100000) : pX0_joinWithNext (cz c) (cz l) (cz o) (I n) (I a) = some (cz (cls c 60 (a + 1) 1 n), cz (cls (up l a (if 2000 < l a + l (a + 1) then 2000 else l a + l (a + 1))) 60 (a + 1) 1 n), cz (cls (up o a (if 10 < o a + o (a + 1) then 10 else o a + o (a + 1))) 60 (a + 1) 1 n), I (n - 1)) := by
  unfold pX0_joinWithNext
  have h1 := hl a (by omega) (by omega)
  have h2 := hl (a + 1) (by omega) (by omega)
  have h3 := ho a (by omega) (by omega)
  have h4 := ho (a + 1) (by omega) (by omega)
  simp only [if_true, if_false, I_add, I_sub, I_mul, I_neg, I_ofNat, Option.bind_some, kIn, I_l0, I_l1, I_l2, I_l3, I_l4, I_l5, I_l6, I_l7, I_l8, I_l9, I_l10, I_l11, I_l12, I_l13, I_l40, I_l43, I_l44, I_l45, I_l48, I_l57, I_l58, I_l60, I_l61, I_l62, I_l79, I_l80, I_l100, I_l101, I_l120, I_l200, I_l201, I_l1999, I_l2000, I_l2001]
  rw [f0_hasT (by omega), f0_hasT (by omega), f0_lettersOf (by omega), f0_lettersOf (by omega), f0_noteOf (by omega), f0_noteOf (by omega), at0_in (by omega), at0_in (by omega), at0_in (by omega), at0_in (by omega)]
  simp (disch := omega) only [if_true, if_false, I_add, I_sub, I_mul, I_neg, I_ofNat, Option.bind_some, kIn, I_l0, I_l1, I_l2, I_l3, I_l4, I_l5, I_l6, I_l7, I_l8, I_l9, I_l10, I_l11, I_l12, I_l13, I_l40, I_l43, I_l44, I_l45, I_l48, I_l57, I_l58, I_l60, I_l61, I_l62, I_l79, I_l80, I_l100, I_l101, I_l120, I_l200, I_l201, I_l1999, I_l2000, I_l2001, I_lt, I_eq, if_neg]
  rw [show (if 2000 < l a + l (a + 1) then I 2000 else I (l a + l (a + 1))) = I (if 2000 < l a + l (a + 1) then 2000 else l a + l (a + 1)) by split <;> rfl, show (if 10 < o a + o (a + 1) then I 10 else I (o a + o (a + 1))) = I (if 10 < o a + o (a + 1) then 10 else o a + o (a + 1)) by split <;> rfl]
  rw [f0_put (by omega)]
  simp only [if_true, if_false, I_add, I_sub, I_mul, I_neg, I_ofNat, Option.bind_some, kIn, I_l0, I_l1, I_l2, I_l3, I_l4, I_l5, I_l6, I_l7, I_l8, I_l9, I_l10, I_l11, I_l12, I_l13, I_l40, I_l43, I_l44, I_l45, I_l48, I_l57, I_l58, I_l60, I_l61, I_l62, I_l79, I_l80, I_l100, I_l101, I_l120, I_l200, I_l201, I_l1999, I_l2000, I_l2001]
  rw [f9_closeCells (by omega), f9_closeCells (by omega), f9_closeCells (by omega)]
  rfl
theorem f0_splitBehind {c l o : Int → Int} {n a x : Int} (h : (0 ≤ n ∧ n < 60) ∧ 0 ≤ a ∧ a < n) : pX0_splitBehind (cz c) (cz l) (cz o) (I n) (I a) (I x) = some (cz (up (opn c 60 (a + 1) n) (a + 1) (c a)), cz (up (opn (up l a x) 60 (a + 1) n) (a + 1) (l a - x)), cz (up (opn (up o a (o a)) 60 (a + 1) n) (a + 1) 0), I (n + 1)) := by
  unfold pX0_splitBehind
  rw [f0_lettersOf (by omega), f0_noteOf (by omega), f0_chapterOf (by omega), at0_in (by omega), at0_in (by omega), at0_in (by omega)]
  simp only [if_true, if_false, I_add, I_sub, I_mul, I_neg, I_ofNat, Option.bind_some, kIn, I_l0, I_l1, I_l2, I_l3, I_l4, I_l5, I_l6, I_l7, I_l8, I_l9, I_l10, I_l11, I_l12, I_l13, I_l40, I_l43, I_l44, I_l45, I_l48, I_l57, I_l58, I_l60, I_l61, I_l62, I_l79, I_l80, I_l100, I_l101, I_l120, I_l200, I_l201, I_l1999, I_l2000, I_l2001]
  rw [f0_put (by omega)]
  simp only [if_true, if_false, I_add, I_sub, I_mul, I_neg, I_ofNat, Option.bind_some, kIn, I_l0, I_l1, I_l2, I_l3, I_l4, I_l5, I_l6, I_l7, I_l8, I_l9, I_l10, I_l11, I_l12, I_l13, I_l40, I_l43, I_l44, I_l45, I_l48, I_l57, I_l58, I_l60, I_l61, I_l62, I_l79, I_l80, I_l100, I_l101, I_l120, I_l200, I_l201, I_l1999, I_l2000, I_l2001]
  rw [f0_insertAt (by omega)]
  rfl
-- what a verse needs in lines, with its heading
def vln (c l : Int → Int) (w h i : Int) : Int := (l i + w - 1) / w + (if i = 0 ∨ ¬ c i = c (i - 1) then h else 0)
theorem vln_bd {c l : Int → Int} {w h i : Int} (hw : 1 ≤ w ∧ w ≤ 200) (hh : 0 ≤ h ∧ h ≤ 5) (hl : 1 ≤ l i ∧ l i ≤ 2000) : 0 ≤ vln c l w h i ∧ vln c l w h i ≤ 2300 := by
  have h1 : 0 ≤ (l i + w - 1) / w := Int.ediv_nonneg (by omega) (by omega)
  have h2 : (l i + w - 1) / w ≤ l i + w - 1 := Int.ediv_le_self w (by omega)
  unfold vln
  split <;> omega
theorem f0_linesOf_L {c l : Int → Int} {n w h e s0 : Int} (hn : (0 ≤ n ∧ n ≤ 60) ∧ 0 ≤ s0 ∧ e ≤ n) (hw : 1 ≤ w ∧ w ≤ 200) (hh : 0 ≤ h ∧ h ≤ 5) (hc : ∀ i, 0 ≤ i → i < n → 1 ≤ c i ∧ c i ≤ 100000) (hl : ∀ i, 0 ≤ i → i < n → 1 ≤ l i ∧ l i ≤ 2000) : ∀ (m : Nat) (s k : Int), s0 ≤ k → k ≤ e → e - k < m → s = Sm (vln c l w h) k - Sm (vln c l w h) s0 → pX0_linesOf_L6 (cz c) (cz l) (I n) m (I e) (I w) (I h) (I s) (I k) = some (I (Sm (vln c l w h) e - Sm (vln c l w h) s0)) := by
  intro m
  induction m with
  | zero => intro s k h0 h1 h2; omega
  | succ m ih =>
    intro s k h0 h1 h2 hs
    show pX0_linesOf_bL6 _ _ _ _ _ _ _ _ _ = _
    unfold pX0_linesOf_bL6 pX0_linesOf_j39
    by_cases g : k = e
    · subst g
      simp (disch := omega) only [if_true, if_false, I_add, I_sub, I_mul, I_neg, I_ofNat, Option.bind_some, kIn, I_l0, I_l1, I_l2, I_l3, I_l4, I_l5, I_l6, I_l7, I_l8, I_l9, I_l10, I_l11, I_l12, I_l13, I_l40, I_l43, I_l44, I_l45, I_l48, I_l57, I_l58, I_l60, I_l61, I_l62, I_l79, I_l80, I_l100, I_l101, I_l120, I_l200, I_l201, I_l1999, I_l2000, I_l2001, I_le, I_lt, I_eq, I_toInt, cz_at, cz_up, if_pos, if_neg]
      rw [hs]
    · have h4 := hl k (by omega) (by omega)
      have e1 : Sm (vln c l w h) (k + 1) = Sm (vln c l w h) k + vln c l w h k := Sm_s (by omega)
      unfold vln at e1 hs ih ⊢
      rw [f0_lettersOf (by omega), f0_opensChapter (by omega) hc, at0_in (by omega)]
      simp only [if_true, if_false, I_add, I_sub, I_mul, I_neg, I_ofNat, Option.bind_some, kIn, I_l0, I_l1, I_l2, I_l3, I_l4, I_l5, I_l6, I_l7, I_l8, I_l9, I_l10, I_l11, I_l12, I_l13, I_l40, I_l43, I_l44, I_l45, I_l48, I_l57, I_l58, I_l60, I_l61, I_l62, I_l79, I_l80, I_l100, I_l101, I_l120, I_l200, I_l201, I_l1999, I_l2000, I_l2001]
      rw [f9_linesFor (by omega)]
      by_cases g2 : k = 0 ∨ ¬ c k = c (k - 1)
      · rw [if_pos g2] at e1 ⊢
        simp (disch := omega) only [if_true, if_false, I_add, I_sub, I_mul, I_neg, I_ofNat, Option.bind_some, kIn, I_l0, I_l1, I_l2, I_l3, I_l4, I_l5, I_l6, I_l7, I_l8, I_l9, I_l10, I_l11, I_l12, I_l13, I_l40, I_l43, I_l44, I_l45, I_l48, I_l57, I_l58, I_l60, I_l61, I_l62, I_l79, I_l80, I_l100, I_l101, I_l120, I_l200, I_l201, I_l1999, I_l2000, I_l2001, I_le, I_lt, I_eq, I_toInt, cz_at, cz_up, if_pos, if_neg]
        exact ih _ _ (by omega) (by omega) (by omega) (by omega)
      · rw [if_neg g2] at e1 ⊢
        simp (disch := omega) only [if_true, if_false, I_add, I_sub, I_mul, I_neg, I_ofNat, Option.bind_some, kIn, I_l0, I_l1, I_l2, I_l3, I_l4, I_l5, I_l6, I_l7, I_l8, I_l9, I_l10, I_l11, I_l12, I_l13, I_l40, I_l43, I_l44, I_l45, I_l48, I_l57, I_l58, I_l60, I_l61, I_l62, I_l79, I_l80, I_l100, I_l101, I_l120, I_l200, I_l201, I_l1999, I_l2000, I_l2001, I_le, I_lt, I_eq, I_toInt, cz_at, cz_up, if_pos, if_neg]
        exact ih _ _ (by omega) (by omega) (by omega) (by omega)
theorem f0_linesOf {c l : Int → Int} {n w h e s0 : Int} (hn : (0 ≤ n ∧ n ≤ 60) ∧ 0 ≤ s0 ∧ s0 ≤ e ∧ e ≤ n) (hw : 1 ≤ w ∧ w ≤ 200) (hh : 0 ≤ h ∧ h ≤ 5) (hc : ∀ i, 0 ≤ i → i < n → 1 ≤ c i ∧ c i ≤ 100000) (hl : ∀ i, 0 ≤ i → i < n → 1 ≤ l i ∧ l i ≤ 2000) : pX0_linesOf (cz c) (cz l) (I n) (I s0) (I e) (I w) (I h) = some (I (Sm (vln c l w h) e - Sm (vln c l w h) s0)) := by
  unfold pX0_linesOf
  simp only [if_true, if_false, I_add, I_sub, I_mul, I_neg, I_ofNat, Option.bind_some, kIn, I_l0, I_l1, I_l2, I_l3, I_l4, I_l5, I_l6, I_l7, I_l8, I_l9, I_l10, I_l11, I_l12, I_l13, I_l40, I_l43, I_l44, I_l45, I_l48, I_l57, I_l58, I_l60, I_l61, I_l62, I_l79, I_l80, I_l100, I_l101, I_l120, I_l200, I_l201, I_l1999, I_l2000, I_l2001]
  exact f0_linesOf_L (by omega) hw hh hc hl 4000 0 s0 (by omega) (by omega) (by omega) (by omega)
theorem f0_noteSumOf_L {o : Int → Int} {n e s0 : Int} (hn : (0 ≤ n ∧ n ≤ 60) ∧ 0 ≤ s0 ∧ e ≤ n) : ∀ (m : Nat) (s k : Int), s0 ≤ k → k ≤ e → e - k < m → s = Sm o k - Sm o s0 → pX0_noteSumOf_L5 (cz o) (I n) m (I e) (I s) (I k) = some (I (Sm o e - Sm o s0)) := by
  intro m
  induction m with
  | zero => intro s k h0 h1 h2; omega
  | succ m ih =>
    intro s k h0 h1 h2 hs
    show pX0_noteSumOf_bL5 _ _ _ _ _ _ = _
    unfold pX0_noteSumOf_bL5
    by_cases g : k = e
    · subst g
      simp (disch := omega) only [if_true, if_false, I_add, I_sub, I_mul, I_neg, I_ofNat, Option.bind_some, kIn, I_l0, I_l1, I_l2, I_l3, I_l4, I_l5, I_l6, I_l7, I_l8, I_l9, I_l10, I_l11, I_l12, I_l13, I_l40, I_l43, I_l44, I_l45, I_l48, I_l57, I_l58, I_l60, I_l61, I_l62, I_l79, I_l80, I_l100, I_l101, I_l120, I_l200, I_l201, I_l1999, I_l2000, I_l2001, I_le, I_lt, I_eq, I_toInt, cz_at, cz_up, if_pos, if_neg]
      rw [hs]
    · have e1 : Sm o (k + 1) = Sm o k + o k := Sm_s (by omega)
      rw [f0_noteOf (by omega), at0_in (by omega)]
      simp (disch := omega) only [if_true, if_false, I_add, I_sub, I_mul, I_neg, I_ofNat, Option.bind_some, kIn, I_l0, I_l1, I_l2, I_l3, I_l4, I_l5, I_l6, I_l7, I_l8, I_l9, I_l10, I_l11, I_l12, I_l13, I_l40, I_l43, I_l44, I_l45, I_l48, I_l57, I_l58, I_l60, I_l61, I_l62, I_l79, I_l80, I_l100, I_l101, I_l120, I_l200, I_l201, I_l1999, I_l2000, I_l2001, I_le, I_lt, I_eq, I_toInt, cz_at, cz_up, if_pos, if_neg]
      exact ih _ _ (by omega) (by omega) (by omega) (by omega)
theorem f0_noteSumOf {o : Int → Int} {n e s0 : Int} (hn : (0 ≤ n ∧ n ≤ 60) ∧ 0 ≤ s0 ∧ s0 ≤ e ∧ e ≤ n) : pX0_noteSumOf (cz o) (I n) (I s0) (I e) = some (I (Sm o e - Sm o s0)) := by
  unfold pX0_noteSumOf
  simp only [if_true, if_false, I_add, I_sub, I_mul, I_neg, I_ofNat, Option.bind_some, kIn, I_l0, I_l1, I_l2, I_l3, I_l4, I_l5, I_l6, I_l7, I_l8, I_l9, I_l10, I_l11, I_l12, I_l13, I_l40, I_l43, I_l44, I_l45, I_l48, I_l57, I_l58, I_l60, I_l61, I_l62, I_l79, I_l80, I_l100, I_l101, I_l120, I_l200, I_l201, I_l1999, I_l2000, I_l2001]
  exact f0_noteSumOf_L (by omega) 4000 0 s0 (by omega) (by omega) (by omega) (by omega)

