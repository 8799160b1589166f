-- the reference: W its row; what it says of a book (n verses: chapters c, letters l, notes o) and of the map (g groups: L, R)
def rB (W : Int → Int) (b n : Int) (c l o : Int → Int) : Prop := W (360 + b) = n ∧ W (362 + b) = at0 c n (n - 1) ∧ ∀ i, 0 ≤ i → i < n → W (60 * b + i) = l i ∧ W (120 + 60 * b + i) = o i ∧ W (240 + 60 * b + i) = c i
def rM (W : Int → Int) (g : Int) (L R : Int → Int) : Prop := W 364 = g ∧ ∀ i, 0 ≤ i → i < g → W (365 + i) = L i ∧ W (485 + i) = R i
-- a book as it may be
def okB (n : Int) (c l o : Int → Int) : Prop := (0 ≤ n ∧ n ≤ 60) ∧ ∀ i, 0 ≤ i → i < n → (1 ≤ l i ∧ l i ≤ 2000) ∧ (0 ≤ o i ∧ o i ≤ 10) ∧ (1 ≤ c i ∧ c i ≤ 10) ∧ (i = 0 → c i = 1) ∧ (i + 1 < n → c i ≤ c (i + 1) ∧ c (i + 1) ≤ c i + 1)
-- a map of m left and n right verses
def okM (g : Int) (L R : Int → Int) (m n : Int) : Prop := (0 ≤ g ∧ g ≤ 120) ∧ (∀ i, 0 ≤ i → i < g → (0 ≤ L i ∧ L i ≤ 60) ∧ (0 ≤ R i ∧ R i ≤ 60) ∧ 1 ≤ L i + R i) ∧ Sm L g = m ∧ Sm R g = n
theorem f10_in {v lo hi : Int} (h : (-2147483648 ≤ v ∧ v ≤ 2147483647) ∧ (-2147483648 ≤ lo ∧ lo ≤ 2147483647) ∧ (-2147483648 ≤ hi ∧ hi ≤ 2147483647)) : pX10_in (I v) (I lo) (I hi) = some (I (if lo ≤ v ∧ v ≤ hi then 1 else 0)) := by
  unfold pX10_in
  simp (disch := omega) only [if_true, if_false, I_add, I_sub, I_mul, I_neg, I_ofNat, Option.bind_some, kIn, I_l0, I_l1, I_l2, I_l3, I_l4, I_l5, I_l6, I_l8, I_l9, I_l10, I_l11, I_l32, I_l40, I_l43, I_l44, I_l45, I_l48, I_l49, I_l57, I_l58, I_l60, I_l61, I_l62, I_l79, I_l80, I_l100, I_l120, I_l180, I_l200, I_l240, I_l300, I_l360, I_l361, I_l362, I_l363, I_l364, I_l365, I_l485, I_l605, I_l1999, I_l2000, I_le, I_lt, I_eq, I_toInt, cz_at, cz_up, if_pos, if_neg]
  repeat' split
  all_goals first | rfl | (exfalso; omega)
theorem f10_noBook {b : Int} (h : -2147483648 ≤ b ∧ b ≤ 2147483647) : pX10_noBook (I b) = some (I (if b = 0 ∨ b = 1 then 0 else 1)) := by
  unfold pX10_noBook
  simp only [if_true, if_false, I_add, I_sub, I_mul, I_neg, I_ofNat, Option.bind_some, kIn, I_l0, I_l1, I_l2, I_l3, I_l4, I_l5, I_l6, I_l8, I_l9, I_l10, I_l11, I_l32, I_l40, I_l43, I_l44, I_l45, I_l48, I_l49, I_l57, I_l58, I_l60, I_l61, I_l62, I_l79, I_l80, I_l100, I_l120, I_l180, I_l200, I_l240, I_l300, I_l360, I_l361, I_l362, I_l363, I_l364, I_l365, I_l485, I_l605, I_l1999, I_l2000]
  rw [f10_in (by omega)]
  by_cases q : b = 0 ∨ b = 1
  · rw [if_pos q, if_pos (by omega)]
    simp (disch := omega) only [if_true, if_false, I_add, I_sub, I_mul, I_neg, I_ofNat, Option.bind_some, kIn, I_l0, I_l1, I_l2, I_l3, I_l4, I_l5, I_l6, I_l8, I_l9, I_l10, I_l11, I_l32, I_l40, I_l43, I_l44, I_l45, I_l48, I_l49, I_l57, I_l58, I_l60, I_l61, I_l62, I_l79, I_l80, I_l100, I_l120, I_l180, I_l200, I_l240, I_l300, I_l360, I_l361, I_l362, I_l363, I_l364, I_l365, I_l485, I_l605, I_l1999, I_l2000, I_eq, if_neg]
  · rw [if_neg q, if_neg (by omega)]
    simp (disch := omega) only [if_true, if_false, I_add, I_sub, I_mul, I_neg, I_ofNat, Option.bind_some, kIn, I_l0, I_l1, I_l2, I_l3, I_l4, I_l5, I_l6, I_l8, I_l9, I_l10, I_l11, I_l32, I_l40, I_l43, I_l44, I_l45, I_l48, I_l49, I_l57, I_l58, I_l60, I_l61, I_l62, I_l79, I_l80, I_l100, I_l120, I_l180, I_l200, I_l240, I_l300, I_l360, I_l361, I_l362, I_l363, I_l364, I_l365, I_l485, I_l605, I_l1999, I_l2000, I_eq, if_pos]
theorem f10_size {W : Int → Int} {b : Int} (h : 0 ≤ b ∧ b ≤ 1) : pX10_size (cz W) (I b) = some (I (W (360 + b))) := by
  unfold pX10_size
  simp (disch := omega) only [if_true, if_false, I_add, I_sub, I_mul, I_neg, I_ofNat, Option.bind_some, kIn, I_l0, I_l1, I_l2, I_l3, I_l4, I_l5, I_l6, I_l8, I_l9, I_l10, I_l11, I_l32, I_l40, I_l43, I_l44, I_l45, I_l48, I_l49, I_l57, I_l58, I_l60, I_l61, I_l62, I_l79, I_l80, I_l100, I_l120, I_l180, I_l200, I_l240, I_l300, I_l360, I_l361, I_l362, I_l363, I_l364, I_l365, I_l485, I_l605, I_l1999, I_l2000, I_le, I_lt, I_eq, I_toInt, cz_at, cz_up, if_pos, if_neg]
theorem f10_groups {W : Int → Int} : pX10_groups (cz W) = some (I (W 364)) := by
  unfold pX10_groups
  simp (disch := omega) only [if_true, if_false, I_add, I_sub, I_mul, I_neg, I_ofNat, Option.bind_some, kIn, I_l0, I_l1, I_l2, I_l3, I_l4, I_l5, I_l6, I_l8, I_l9, I_l10, I_l11, I_l32, I_l40, I_l43, I_l44, I_l45, I_l48, I_l49, I_l57, I_l58, I_l60, I_l61, I_l62, I_l79, I_l80, I_l100, I_l120, I_l180, I_l200, I_l240, I_l300, I_l360, I_l361, I_l362, I_l363, I_l364, I_l365, I_l485, I_l605, I_l1999, I_l2000, I_le, I_lt, I_eq, I_toInt, cz_at, cz_up, if_pos, if_neg]
theorem f10_noVerse {W : Int → Int} {b v n : Int} (h : (0 ≤ b ∧ b ≤ 1) ∧ (-2147483648 ≤ v ∧ v ≤ 2147483647) ∧ 0 ≤ n ∧ n ≤ 60) (hn : W (360 + b) = n) : pX10_noVerse (cz W) (I b) (I v) = some (I (if 0 ≤ v ∧ v < n then 0 else 1)) := by
  unfold pX10_noVerse
  rw [f10_noBook (by omega), if_pos (by omega), f10_size (by omega), hn]
  simp (disch := omega) only [if_true, if_false, I_add, I_sub, I_mul, I_neg, I_ofNat, Option.bind_some, kIn, I_l0, I_l1, I_l2, I_l3, I_l4, I_l5, I_l6, I_l8, I_l9, I_l10, I_l11, I_l32, I_l40, I_l43, I_l44, I_l45, I_l48, I_l49, I_l57, I_l58, I_l60, I_l61, I_l62, I_l79, I_l80, I_l100, I_l120, I_l180, I_l200, I_l240, I_l300, I_l360, I_l361, I_l362, I_l363, I_l364, I_l365, I_l485, I_l605, I_l1999, I_l2000, I_eq, if_pos]
  rw [f10_in (by omega)]
  by_cases q : 0 ≤ v ∧ v < n
  · rw [if_pos q, if_pos (by omega)]
    simp (disch := omega) only [if_true, if_false, I_add, I_sub, I_mul, I_neg, I_ofNat, Option.bind_some, kIn, I_l0, I_l1, I_l2, I_l3, I_l4, I_l5, I_l6, I_l8, I_l9, I_l10, I_l11, I_l32, I_l40, I_l43, I_l44, I_l45, I_l48, I_l49, I_l57, I_l58, I_l60, I_l61, I_l62, I_l79, I_l80, I_l100, I_l120, I_l180, I_l200, I_l240, I_l300, I_l360, I_l361, I_l362, I_l363, I_l364, I_l365, I_l485, I_l605, I_l1999, I_l2000, I_eq, if_neg]
  · rw [if_neg q, if_neg (by omega)]
    simp (disch := omega) only [if_true, if_false, I_add, I_sub, I_mul, I_neg, I_ofNat, Option.bind_some, kIn, I_l0, I_l1, I_l2, I_l3, I_l4, I_l5, I_l6, I_l8, I_l9, I_l10, I_l11, I_l32, I_l40, I_l43, I_l44, I_l45, I_l48, I_l49, I_l57, I_l58, I_l60, I_l61, I_l62, I_l79, I_l80, I_l100, I_l120, I_l180, I_l200, I_l240, I_l300, I_l360, I_l361, I_l362, I_l363, I_l364, I_l365, I_l485, I_l605, I_l1999, I_l2000, I_eq, if_pos]
theorem f10_noVerseN {W : Int → Int} {b v : Int} (h : (-2147483648 ≤ b ∧ b ≤ 2147483647) ∧ (-2147483648 ≤ v ∧ v ≤ 2147483647) ∧ ¬ (b = 0 ∨ b = 1)) : pX10_noVerse (cz W) (I b) (I v) = some (I 1) := by
  unfold pX10_noVerse
  rw [f10_noBook (by omega), if_neg h.2.2]
  simp (disch := omega) only [if_true, if_false, I_add, I_sub, I_mul, I_neg, I_ofNat, Option.bind_some, kIn, I_l0, I_l1, I_l2, I_l3, I_l4, I_l5, I_l6, I_l8, I_l9, I_l10, I_l11, I_l32, I_l40, I_l43, I_l44, I_l45, I_l48, I_l49, I_l57, I_l58, I_l60, I_l61, I_l62, I_l79, I_l80, I_l100, I_l120, I_l180, I_l200, I_l240, I_l300, I_l360, I_l361, I_l362, I_l363, I_l364, I_l365, I_l485, I_l605, I_l1999, I_l2000, I_eq, if_neg]
theorem f10_noGroup {W : Int → Int} {a g : Int} (h : (-2147483648 ≤ a ∧ a ≤ 2147483647) ∧ 0 ≤ g ∧ g ≤ 120) (hg : W 364 = g) : pX10_noGroup (cz W) (I a) = some (I (if 0 ≤ a ∧ a < g then 0 else 1)) := by
  unfold pX10_noGroup
  rw [f10_groups, hg]
  simp only [if_true, if_false, I_add, I_sub, I_mul, I_neg, I_ofNat, Option.bind_some, kIn, I_l0, I_l1, I_l2, I_l3, I_l4, I_l5, I_l6, I_l8, I_l9, I_l10, I_l11, I_l32, I_l40, I_l43, I_l44, I_l45, I_l48, I_l49, I_l57, I_l58, I_l60, I_l61, I_l62, I_l79, I_l80, I_l100, I_l120, I_l180, I_l200, I_l240, I_l300, I_l360, I_l361, I_l362, I_l363, I_l364, I_l365, I_l485, I_l605, I_l1999, I_l2000]
  rw [f10_in (by omega)]
  by_cases q : 0 ≤ a ∧ a < g
  · rw [if_pos q, if_pos (by omega)]
    simp (disch := omega) only [if_true, if_false, I_add, I_sub, I_mul, I_neg, I_ofNat, Option.bind_some, kIn, I_l0, I_l1, I_l2, I_l3, I_l4, I_l5, I_l6, I_l8, I_l9, I_l10, I_l11, I_l32, I_l40, I_l43, I_l44, I_l45, I_l48, I_l49, I_l57, I_l58, I_l60, I_l61, I_l62, I_l79, I_l80, I_l100, I_l120, I_l180, I_l200, I_l240, I_l300, I_l360, I_l361, I_l362, I_l363, I_l364, I_l365, I_l485, I_l605, I_l1999, I_l2000, I_eq, if_neg]
  · rw [if_neg q, if_neg (by omega)]
    simp (disch := omega) only [if_true, if_false, I_add, I_sub, I_mul, I_neg, I_ofNat, Option.bind_some, kIn, I_l0, I_l1, I_l2, I_l3, I_l4, I_l5, I_l6, I_l8, I_l9, I_l10, I_l11, I_l32, I_l40, I_l43, I_l44, I_l45, I_l48, I_l49, I_l57, I_l58, I_l60, I_l61, I_l62, I_l79, I_l80, I_l100, I_l120, I_l180, I_l200, I_l240, I_l300, I_l360, I_l361, I_l362, I_l363, I_l364, I_l365, I_l485, I_l605, I_l1999, I_l2000, I_eq, if_pos]
theorem f10_has {W L R : Int → Int} {g a b : Int} (h : (0 ≤ g ∧ g ≤ 120) ∧ (0 ≤ a ∧ a < g) ∧ 0 ≤ b ∧ b ≤ 1) (hM : rM W g L R) : pX10_has (cz W) (I a) (I b) = some (I (sel b L R a)) := by
  unfold pX10_has sel
  obtain ⟨h1, h2⟩ := hM.2 a (by omega) (by omega)
  simp (disch := omega) only [if_true, if_false, I_add, I_sub, I_mul, I_neg, I_ofNat, Option.bind_some, kIn, I_l0, I_l1, I_l2, I_l3, I_l4, I_l5, I_l6, I_l8, I_l9, I_l10, I_l11, I_l32, I_l40, I_l43, I_l44, I_l45, I_l48, I_l49, I_l57, I_l58, I_l60, I_l61, I_l62, I_l79, I_l80, I_l100, I_l120, I_l180, I_l200, I_l240, I_l300, I_l360, I_l361, I_l362, I_l363, I_l364, I_l365, I_l485, I_l605, I_l1999, I_l2000, I_le, I_lt, I_eq, I_toInt, cz_at, cz_up, if_pos, if_neg]
  split
  · rw [h1]
  · rw [h2]
theorem f10_firstIn_L {W L R : Int → Int} {g b e : Int} (h : (0 ≤ g ∧ g ≤ 120) ∧ (0 ≤ b ∧ b ≤ 1) ∧ e ≤ g) (hM : rM W g L R) : ∀ (m : Nat) (s k : Int), 0 ≤ k → k ≤ e → e - k < m → s = Sm (sel b L R) k → pX10_firstIn_L5 (cz W) m (I e) (I b) (I s) (I k) = some (I (Sm (sel b L R) e)) := by
  intro m
  induction m with
  | zero => intro s k h0 h1 h2; omega
  | succ m ih =>
    intro s k h0 h1 h2 hs
    show pX10_firstIn_bL5 _ _ _ _ _ _ = _
    unfold pX10_firstIn_bL5
    by_cases q : k = e
    · subst q
      simp (disch := omega) only [if_true, if_false, I_add, I_sub, I_mul, I_neg, I_ofNat, Option.bind_some, kIn, I_l0, I_l1, I_l2, I_l3, I_l4, I_l5, I_l6, I_l8, I_l9, I_l10, I_l11, I_l32, I_l40, I_l43, I_l44, I_l45, I_l48, I_l49, I_l57, I_l58, I_l60, I_l61, I_l62, I_l79, I_l80, I_l100, I_l120, I_l180, I_l200, I_l240, I_l300, I_l360, I_l361, I_l362, I_l363, I_l364, I_l365, I_l485, I_l605, I_l1999, I_l2000, I_le, if_pos]
      rw [hs]
    · have e1 : Sm (sel b L R) (k + 1) = Sm (sel b L R) k + sel b L R k := Sm_s h0
      rw [f10_has (by omega) hM]
      simp (disch := omega) only [if_true, if_false, I_add, I_sub, I_mul, I_neg, I_ofNat, Option.bind_some, kIn, I_l0, I_l1, I_l2, I_l3, I_l4, I_l5, I_l6, I_l8, I_l9, I_l10, I_l11, I_l32, I_l40, I_l43, I_l44, I_l45, I_l48, I_l49, I_l57, I_l58, I_l60, I_l61, I_l62, I_l79, I_l80, I_l100, I_l120, I_l180, I_l200, I_l240, I_l300, I_l360, I_l361, I_l362, I_l363, I_l364, I_l365, I_l485, I_l605, I_l1999, I_l2000, I_le, if_neg]
      exact ih _ _ (by omega) (by omega) (by omega) (by omega)
theorem f10_firstIn {W L R : Int → Int} {g b e : Int} (h : (0 ≤ g ∧ g ≤ 120) ∧ (0 ≤ b ∧ b ≤ 1) ∧ 0 ≤ e ∧ e ≤ g) (hM : rM W g L R) : pX10_firstIn (cz W) (I e) (I b) = some (I (Sm (sel b L R) e)) := by
  unfold pX10_firstIn
  simp only [if_true, if_false, I_add, I_sub, I_mul, I_neg, I_ofNat, Option.bind_some, kIn, I_l0, I_l1, I_l2, I_l3, I_l4, I_l5, I_l6, I_l8, I_l9, I_l10, I_l11, I_l32, I_l40, I_l43, I_l44, I_l45, I_l48, I_l49, I_l57, I_l58, I_l60, I_l61, I_l62, I_l79, I_l80, I_l100, I_l120, I_l180, I_l200, I_l240, I_l300, I_l360, I_l361, I_l362, I_l363, I_l364, I_l365, I_l485, I_l605, I_l1999, I_l2000]
  exact f10_firstIn_L (by omega) hM 4000 0 0 (by omega) (by omega) (by omega) rfl
theorem f10_groupOf_L {W L R : Int → Int} {g b v j : Int} (h : (0 ≤ g ∧ g ≤ 120) ∧ (0 ≤ b ∧ b ≤ 1) ∧ (0 ≤ j ∧ j < g) ∧ 0 ≤ v ∧ v ≤ 100000) (hM : rM W g L R) (hF : ∀ i, 0 ≤ i → i < g → 0 ≤ sel b L R i ∧ sel b L R i ≤ 1000) (h1 : Sm (sel b L R) j ≤ v) (h2 : v < Sm (sel b L R) (j + 1)) : ∀ (m : Nat) (s k : Int), 0 ≤ k → k ≤ j → j - k < m → s = v - Sm (sel b L R) k → pX10_groupOf_L5 (cz W) m (I b) (I k) (I s) = some (I j) := by
  intro m
  induction m with
  | zero => intro s k h0 h1 h2; omega
  | succ m ih =>
    intro s k h0 h3 h4 hs
    show pX10_groupOf_bL5 _ _ _ _ _ = _
    unfold pX10_groupOf_bL5
    have e1 : Sm (sel b L R) (k + 1) = Sm (sel b L R) k + sel b L R k := Sm_s h0
    have e2 := Sm_nn (F := sel b L R) h0 (fun i a1 a2 => (hF i a1 (by omega)).1)
    have e3 := Sm_mono (F := sel b L R) h0 h3 (fun i a1 a2 => (hF i (by omega) (by omega)).1)
    have e4 := hF k h0 (by omega)
    rw [f10_has (by omega) hM]
    by_cases q : k = j
    · subst q
      simp (disch := omega) only [if_true, if_false, I_add, I_sub, I_mul, I_neg, I_ofNat, Option.bind_some, kIn, I_l0, I_l1, I_l2, I_l3, I_l4, I_l5, I_l6, I_l8, I_l9, I_l10, I_l11, I_l32, I_l40, I_l43, I_l44, I_l45, I_l48, I_l49, I_l57, I_l58, I_l60, I_l61, I_l62, I_l79, I_l80, I_l100, I_l120, I_l180, I_l200, I_l240, I_l300, I_l360, I_l361, I_l362, I_l363, I_l364, I_l365, I_l485, I_l605, I_l1999, I_l2000, I_lt, if_pos]
    · have e5 := Sm_mono (F := sel b L R) (m := k + 1) (n := j) (by omega) (by omega) (fun i a1 a2 => (hF i (by omega) (by omega)).1)
      simp (disch := omega) only [if_true, if_false, I_add, I_sub, I_mul, I_neg, I_ofNat, Option.bind_some, kIn, I_l0, I_l1, I_l2, I_l3, I_l4, I_l5, I_l6, I_l8, I_l9, I_l10, I_l11, I_l32, I_l40, I_l43, I_l44, I_l45, I_l48, I_l49, I_l57, I_l58, I_l60, I_l61, I_l62, I_l79, I_l80, I_l100, I_l120, I_l180, I_l200, I_l240, I_l300, I_l360, I_l361, I_l362, I_l363, I_l364, I_l365, I_l485, I_l605, I_l1999, I_l2000, I_lt, if_neg]
      exact ih _ _ (by omega) (by omega) (by omega) (by omega)
theorem f10_groupOf {W L R : Int → Int} {g b v j : Int} (h : (0 ≤ g ∧ g ≤ 120) ∧ (0 ≤ b ∧ b ≤ 1) ∧ (0 ≤ j ∧ j < g) ∧ 0 ≤ v ∧ v ≤ 100000) (hM : rM W g L R) (hF : ∀ i, 0 ≤ i → i < g → 0 ≤ sel b L R i ∧ sel b L R i ≤ 1000) (h1 : Sm (sel b L R) j ≤ v) (h2 : v < Sm (sel b L R) (j + 1)) : pX10_groupOf (cz W) (I b) (I v) = some (I j) := by
  unfold pX10_groupOf
  simp only [if_true, if_false, I_add, I_sub, I_mul, I_neg, I_ofNat, Option.bind_some, kIn, I_l0, I_l1, I_l2, I_l3, I_l4, I_l5, I_l6, I_l8, I_l9, I_l10, I_l11, I_l32, I_l40, I_l43, I_l44, I_l45, I_l48, I_l49, I_l57, I_l58, I_l60, I_l61, I_l62, I_l79, I_l80, I_l100, I_l120, I_l180, I_l200, I_l240, I_l300, I_l360, I_l361, I_l362, I_l363, I_l364, I_l365, I_l485, I_l605, I_l1999, I_l2000]
  exact f10_groupOf_L h hM hF h1 h2 4000 v 0 (by omega) (by omega) (by omega) (by rw [Sm_0]; omega)
theorem f10_chapterOf {W c l o : Int → Int} {b n v : Int} (h : (0 ≤ b ∧ b ≤ 1) ∧ (0 ≤ n ∧ n ≤ 60) ∧ 0 ≤ v ∧ v < n) (hB : rB W b n c l o) : pX10_chapterOf (cz W) (I b) (I v) = some (I (c v)) := by
  unfold pX10_chapterOf
  have h1 := (hB.2.2 v (by omega) (by omega)).2.2
  simp (disch := omega) only [if_true, if_false, I_add, I_sub, I_mul, I_neg, I_ofNat, Option.bind_some, kIn, I_l0, I_l1, I_l2, I_l3, I_l4, I_l5, I_l6, I_l8, I_l9, I_l10, I_l11, I_l32, I_l40, I_l43, I_l44, I_l45, I_l48, I_l49, I_l57, I_l58, I_l60, I_l61, I_l62, I_l79, I_l80, I_l100, I_l120, I_l180, I_l200, I_l240, I_l300, I_l360, I_l361, I_l362, I_l363, I_l364, I_l365, I_l485, I_l605, I_l1999, I_l2000, I_le, I_lt, I_eq, I_toInt, cz_at, cz_up, if_pos, if_neg]
  rw [h1]
theorem f10_firstOf_L {W c l o : Int → Int} {b n x j : Int} (hn : (0 ≤ b ∧ b ≤ 1) ∧ (0 ≤ n ∧ n ≤ 60) ∧ 0 ≤ j ∧ j < n) (hx : -2147483648 ≤ x ∧ x ≤ 2147483647) (hB : rB W b n c l o) (hc : ∀ i, 0 ≤ i → i < n → -100000 ≤ c i ∧ c i ≤ 100000) (hj : c j = x) (hf : ∀ i, 0 ≤ i → i < j → ¬ c i = x) : ∀ (m : Nat) (k : Int), 0 ≤ k → k ≤ j → j - k < m → pX10_firstOf_L2 (cz W) m (I b) (I x) (I k) = some (I j) := by
  intro m
  induction m with
  | zero => intro k h0 h1 h2; omega
  | succ m ih =>
    intro k h0 h1 h2
    show pX10_firstOf_bL2 _ _ _ _ _ = _
    unfold pX10_firstOf_bL2
    have h3 := hc k h0 (by omega)
    rw [f10_chapterOf (by omega) hB]
    simp (disch := omega) only [if_true, if_false, I_add, I_sub, I_mul, I_neg, I_ofNat, Option.bind_some, kIn, I_l0, I_l1, I_l2, I_l3, I_l4, I_l5, I_l6, I_l8, I_l9, I_l10, I_l11, I_l32, I_l40, I_l43, I_l44, I_l45, I_l48, I_l49, I_l57, I_l58, I_l60, I_l61, I_l62, I_l79, I_l80, I_l100, I_l120, I_l180, I_l200, I_l240, I_l300, I_l360, I_l361, I_l362, I_l363, I_l364, I_l365, I_l485, I_l605, I_l1999, I_l2000, I_eq]
    by_cases g : k = j
    · subst g
      rw [if_pos hj]
    · rw [if_neg (hf k h0 (by omega))]
      exact ih (k + 1) (by omega) (by omega) (by omega)
theorem f10_firstOf {W c l o : Int → Int} {b n x j : Int} (hn : (0 ≤ b ∧ b ≤ 1) ∧ (0 ≤ n ∧ n ≤ 60) ∧ 0 ≤ j ∧ j < n) (hx : -2147483648 ≤ x ∧ x ≤ 2147483647) (hB : rB W b n c l o) (hc : ∀ i, 0 ≤ i → i < n → -100000 ≤ c i ∧ c i ≤ 100000) (hj : c j = x) (hf : ∀ i, 0 ≤ i → i < j → ¬ c i = x) : pX10_firstOf (cz W) (I b) (I x) = some (I j) := by
  unfold pX10_firstOf
  simp only [if_true, if_false, I_add, I_sub, I_mul, I_neg, I_ofNat, Option.bind_some, kIn, I_l0, I_l1, I_l2, I_l3, I_l4, I_l5, I_l6, I_l8, I_l9, I_l10, I_l11, I_l32, I_l40, I_l43, I_l44, I_l45, I_l48, I_l49, I_l57, I_l58, I_l60, I_l61, I_l62, I_l79, I_l80, I_l100, I_l120, I_l180, I_l200, I_l240, I_l300, I_l360, I_l361, I_l362, I_l363, I_l364, I_l365, I_l485, I_l605, I_l1999, I_l2000]
  exact f10_firstOf_L hn hx hB hc hj hf 4000 0 (by omega) (by omega) (by omega)
theorem f10_versesOf_L {W c l o : Int → Int} {b n x : Int} (hn : (0 ≤ b ∧ b ≤ 1) ∧ 0 ≤ n ∧ n ≤ 60) (hx : -2147483648 ≤ x ∧ x ≤ 2147483647) (hB : rB W b n c l o) (hc : ∀ i, 0 ≤ i → i < n → -100000 ≤ c i ∧ c i ≤ 100000) : ∀ (m : Nat) (s k : Int), 0 ≤ k → k ≤ n → n - k < m → s = cnt c x k → pX10_versesOf_L5 (cz W) m (I b) (I x) (I s) (I k) = some (I (cnt c x n)) := by
  intro m
  induction m with
  | zero => intro s k h0 h1 h2; omega
  | succ m ih =>
    intro s k h0 h1 h2 hs
    show pX10_versesOf_bL5 _ _ _ _ _ _ = _
    unfold pX10_versesOf_bL5 pX10_versesOf_j32
    rw [f10_size (by omega), hB.1]
    by_cases g : k = n
    · subst g
      simp (disch := omega) only [if_true, if_false, I_add, I_sub, I_mul, I_neg, I_ofNat, Option.bind_some, kIn, I_l0, I_l1, I_l2, I_l3, I_l4, I_l5, I_l6, I_l8, I_l9, I_l10, I_l11, I_l32, I_l40, I_l43, I_l44, I_l45, I_l48, I_l49, I_l57, I_l58, I_l60, I_l61, I_l62, I_l79, I_l80, I_l100, I_l120, I_l180, I_l200, I_l240, I_l300, I_l360, I_l361, I_l362, I_l363, I_l364, I_l365, I_l485, I_l605, I_l1999, I_l2000, I_le, if_pos]
      rw [hs]
    · have h3 := hc k h0 (by omega)
      have e : cnt c x (k + 1) = cnt c x k + (if c k = x then 1 else 0) := Sm_s h0
      rw [f10_chapterOf (by omega) hB]
      simp (disch := omega) only [if_true, if_false, I_add, I_sub, I_mul, I_neg, I_ofNat, Option.bind_some, kIn, I_l0, I_l1, I_l2, I_l3, I_l4, I_l5, I_l6, I_l8, I_l9, I_l10, I_l11, I_l32, I_l40, I_l43, I_l44, I_l45, I_l48, I_l49, I_l57, I_l58, I_l60, I_l61, I_l62, I_l79, I_l80, I_l100, I_l120, I_l180, I_l200, I_l240, I_l300, I_l360, I_l361, I_l362, I_l363, I_l364, I_l365, I_l485, I_l605, I_l1999, I_l2000, I_le, I_eq, if_neg]
      by_cases g2 : c k = x
      · rw [if_pos g2] at e ⊢
        exact ih _ _ (by omega) (by omega) (by omega) (by omega)
      · rw [if_neg g2] at e ⊢
        exact ih _ _ (by omega) (by omega) (by omega) (by omega)
theorem f10_versesOf {W c l o : Int → Int} {b n x : Int} (hn : (0 ≤ b ∧ b ≤ 1) ∧ 0 ≤ n ∧ n ≤ 60) (hx : -2147483648 ≤ x ∧ x ≤ 2147483647) (hB : rB W b n c l o) (hc : ∀ i, 0 ≤ i → i < n → -100000 ≤ c i ∧ c i ≤ 100000) : pX10_versesOf (cz W) (I b) (I x) = some (I (cnt c x n)) := by
  unfold pX10_versesOf
  simp only [if_true, if_false, I_add, I_sub, I_mul, I_neg, I_ofNat, Option.bind_some, kIn, I_l0, I_l1, I_l2, I_l3, I_l4, I_l5, I_l6, I_l8, I_l9, I_l10, I_l11, I_l32, I_l40, I_l43, I_l44, I_l45, I_l48, I_l49, I_l57, I_l58, I_l60, I_l61, I_l62, I_l79, I_l80, I_l100, I_l120, I_l180, I_l200, I_l240, I_l300, I_l360, I_l361, I_l362, I_l363, I_l364, I_l365, I_l485, I_l605, I_l1999, I_l2000]
  exact f10_versesOf_L hn hx hB hc 4000 0 0 (by omega) (by omega) (by omega) rfl
-- widths: 0 stands for 40
def wdt (w : Int → Int) (b : Int) : Int := if w b = 0 then 40 else w b
theorem f10_width {w : Int → Int} {b : Int} (h : 0 ≤ b ∧ b ≤ 1) (hw : -100000 ≤ w b ∧ w b ≤ 100000) : pX10_width (cz w) (I b) = some (I (wdt w b)) := by
  unfold pX10_width wdt
  simp (disch := omega) only [if_true, if_false, I_add, I_sub, I_mul, I_neg, I_ofNat, Option.bind_some, kIn, I_l0, I_l1, I_l2, I_l3, I_l4, I_l5, I_l6, I_l8, I_l9, I_l10, I_l11, I_l32, I_l40, I_l43, I_l44, I_l45, I_l48, I_l49, I_l57, I_l58, I_l60, I_l61, I_l62, I_l79, I_l80, I_l100, I_l120, I_l180, I_l200, I_l240, I_l300, I_l360, I_l361, I_l362, I_l363, I_l364, I_l365, I_l485, I_l605, I_l1999, I_l2000, I_le, I_lt, I_eq, I_toInt, cz_at, cz_up, if_pos, if_neg]
  split <;> rfl
theorem f10_linesOf {W w c l o : Int → Int} {b n v : Int} (h : (0 ≤ b ∧ b ≤ 1) ∧ (0 ≤ n ∧ n ≤ 60) ∧ 0 ≤ v ∧ v < n) (hB : rB W b n c l o) (hl : 1 ≤ l v ∧ l v ≤ 2000) (hw : -100000 ≤ w b ∧ w b ≤ 100000) (hw2 : 1 ≤ wdt w b ∧ wdt w b ≤ 200) : pX10_linesOf (cz W) (cz w) (I b) (I v) = some (I ((l v + wdt w b - 1) / wdt w b)) := by
  unfold pX10_linesOf
  have h1 := (hB.2.2 v (by omega) (by omega)).1
  rw [f10_width (by omega) hw]
  simp (disch := omega) only [if_true, if_false, I_add, I_sub, I_mul, I_neg, I_ofNat, Option.bind_some, kIn, I_l0, I_l1, I_l2, I_l3, I_l4, I_l5, I_l6, I_l8, I_l9, I_l10, I_l11, I_l32, I_l40, I_l43, I_l44, I_l45, I_l48, I_l49, I_l57, I_l58, I_l60, I_l61, I_l62, I_l79, I_l80, I_l100, I_l120, I_l180, I_l200, I_l240, I_l300, I_l360, I_l361, I_l362, I_l363, I_l364, I_l365, I_l485, I_l605, I_l1999, I_l2000, I_le, I_lt, I_eq, I_toInt, cz_at, cz_up, if_pos, if_neg]
  rw [h1, I_div (by omega)]
theorem f10_needed_L {W w c l o L R : Int → Int} {g b n a e s0 h : Int} (hn : (0 ≤ b ∧ b ≤ 1) ∧ (0 ≤ n ∧ n ≤ 60) ∧ (0 ≤ g ∧ g ≤ 120) ∧ (0 ≤ a ∧ a < g)) (hs0 : s0 = Sm (sel b L R) a) (he : e = Sm (sel b L R) (a + 1)) (hse : 0 ≤ s0 ∧ s0 ≤ e ∧ e ≤ n) (hh : 0 ≤ h ∧ h ≤ 5) (hB : rB W b n c l o) (hM : rM W g L R) (hc : ∀ i, 0 ≤ i → i < n → 1 ≤ c i ∧ c i ≤ 100000) (hl : ∀ i, 0 ≤ i → i < n → 1 ≤ l i ∧ l i ≤ 2000) (hw : -100000 ≤ w b ∧ w b ≤ 100000) (hw2 : 1 ≤ wdt w b ∧ wdt w b ≤ 200) : ∀ (m : Nat) (s k : Int), s0 ≤ k → k ≤ e → e - k < m → s = Sm (vln c l (wdt w b) h) k - Sm (vln c l (wdt w b) h) s0 → pX10_needed_L13 (cz W) (cz w) (I h) m (I a) (I b) (I s0) (I s) (I k) = some (I (Sm (vln c l (wdt w b) h) e - Sm (vln c l (wdt w b) h) s0)) := by
  intro m
  induction m with
  | zero => intro s k h0 h1 h2; omega
  | succ m ih =>
    intro s k h0 h1 h2 hs
    show pX10_needed_bL13 _ _ _ _ _ _ _ _ _ = _
    unfold pX10_needed_bL13 pX10_needed_j50 pX10_needed_j55 pX10_needed_j79
    have e0 : Sm (sel b L R) (a + 1) = Sm (sel b L R) a + sel b L R a := Sm_s (by omega)
    rw [f10_has (by omega) hM]
    by_cases q : k = e
    · subst q
      simp (disch := omega) only [if_true, if_false, I_add, I_sub, I_mul, I_neg, I_ofNat, Option.bind_some, kIn, I_l0, I_l1, I_l2, I_l3, I_l4, I_l5, I_l6, I_l8, I_l9, I_l10, I_l11, I_l32, I_l40, I_l43, I_l44, I_l45, I_l48, I_l49, I_l57, I_l58, I_l60, I_l61, I_l62, I_l79, I_l80, I_l100, I_l120, I_l180, I_l200, I_l240, I_l300, I_l360, I_l361, I_l362, I_l363, I_l364, I_l365, I_l485, I_l605, I_l1999, I_l2000, I_le, if_pos]
      rw [hs]
    · have e1 : Sm (vln c l (wdt w b) h) (k + 1) = Sm (vln c l (wdt w b) h) k + vln c l (wdt w b) h k := Sm_s (by omega)
      have h4 := hl k (by omega) (by omega)
      have h5 := hc k (by omega) (by omega)
      unfold vln at e1 hs ih ⊢
      rw [f10_linesOf (by omega) hB h4 hw hw2]
      by_cases q2 : k = 0
      · rw [if_pos (Or.inl q2)] at e1
        simp (disch := omega) only [if_true, if_false, I_add, I_sub, I_mul, I_neg, I_ofNat, Option.bind_some, kIn, I_l0, I_l1, I_l2, I_l3, I_l4, I_l5, I_l6, I_l8, I_l9, I_l10, I_l11, I_l32, I_l40, I_l43, I_l44, I_l45, I_l48, I_l49, I_l57, I_l58, I_l60, I_l61, I_l62, I_l79, I_l80, I_l100, I_l120, I_l180, I_l200, I_l240, I_l300, I_l360, I_l361, I_l362, I_l363, I_l364, I_l365, I_l485, I_l605, I_l1999, I_l2000, I_le, I_eq, if_pos, if_neg]
        exact ih _ _ (by omega) (by omega) (by omega) (by omega)
      · have h6 := hc (k - 1) (by omega) (by omega)
        simp (disch := omega) only [if_true, if_false, I_add, I_sub, I_mul, I_neg, I_ofNat, Option.bind_some, kIn, I_l0, I_l1, I_l2, I_l3, I_l4, I_l5, I_l6, I_l8, I_l9, I_l10, I_l11, I_l32, I_l40, I_l43, I_l44, I_l45, I_l48, I_l49, I_l57, I_l58, I_l60, I_l61, I_l62, I_l79, I_l80, I_l100, I_l120, I_l180, I_l200, I_l240, I_l300, I_l360, I_l361, I_l362, I_l363, I_l364, I_l365, I_l485, I_l605, I_l1999, I_l2000, I_le, I_eq, if_pos, if_neg]
        rw [f10_chapterOf (by omega) hB, f10_chapterOf (by omega) hB]
        by_cases q3 : c k = c (k - 1)
        · rw [if_neg (by omega)] at e1
          simp (disch := omega) only [if_true, if_false, I_add, I_sub, I_mul, I_neg, I_ofNat, Option.bind_some, kIn, I_l0, I_l1, I_l2, I_l3, I_l4, I_l5, I_l6, I_l8, I_l9, I_l10, I_l11, I_l32, I_l40, I_l43, I_l44, I_l45, I_l48, I_l49, I_l57, I_l58, I_l60, I_l61, I_l62, I_l79, I_l80, I_l100, I_l120, I_l180, I_l200, I_l240, I_l300, I_l360, I_l361, I_l362, I_l363, I_l364, I_l365, I_l485, I_l605, I_l1999, I_l2000, I_eq, if_pos, if_neg]
          exact ih _ _ (by omega) (by omega) (by omega) (by omega)
        · rw [if_pos (Or.inr q3)] at e1
          simp (disch := omega) only [if_true, if_false, I_add, I_sub, I_mul, I_neg, I_ofNat, Option.bind_some, kIn, I_l0, I_l1, I_l2, I_l3, I_l4, I_l5, I_l6, I_l8, I_l9, I_l10, I_l11, I_l32, I_l40, I_l43, I_l44, I_l45, I_l48, I_l49, I_l57, I_l58, I_l60, I_l61, I_l62, I_l79, I_l80, I_l100, I_l120, I_l180, I_l200, I_l240, I_l300, I_l360, I_l361, I_l362, I_l363, I_l364, I_l365, I_l485, I_l605, I_l1999, I_l2000, I_eq, if_pos, if_neg]
          exact ih _ _ (by omega) (by omega) (by omega) (by omega)
theorem f10_needed {W w c l o L R : Int → Int} {g b n a h : Int} (hn : (0 ≤ b ∧ b ≤ 1) ∧ (0 ≤ n ∧ n ≤ 60) ∧ (0 ≤ g ∧ g ≤ 120) ∧ (0 ≤ a ∧ a < g)) (hse : 0 ≤ Sm (sel b L R) a ∧ Sm (sel b L R) a ≤ Sm (sel b L R) (a + 1) ∧ Sm (sel b L R) (a + 1) ≤ n) (hh : 0 ≤ h ∧ h ≤ 5) (hB : rB W b n c l o) (hM : rM W g L R) (hc : ∀ i, 0 ≤ i → i < n → 1 ≤ c i ∧ c i ≤ 100000) (hl : ∀ i, 0 ≤ i → i < n → 1 ≤ l i ∧ l i ≤ 2000) (hw : -100000 ≤ w b ∧ w b ≤ 100000) (hw2 : 1 ≤ wdt w b ∧ wdt w b ≤ 200) : pX10_needed (cz W) (cz w) (I h) (I a) (I b) = some (I (Sm (vln c l (wdt w b) h) (Sm (sel b L R) (a + 1)) - Sm (vln c l (wdt w b) h) (Sm (sel b L R) a))) := by
  unfold pX10_needed
  rw [f10_firstIn (by omega) hM]
  simp only [if_true, if_false, I_add, I_sub, I_mul, I_neg, I_ofNat, Option.bind_some, kIn, I_l0, I_l1, I_l2, I_l3, I_l4, I_l5, I_l6, I_l8, I_l9, I_l10, I_l11, I_l32, I_l40, I_l43, I_l44, I_l45, I_l48, I_l49, I_l57, I_l58, I_l60, I_l61, I_l62, I_l79, I_l80, I_l100, I_l120, I_l180, I_l200, I_l240, I_l300, I_l360, I_l361, I_l362, I_l363, I_l364, I_l365, I_l485, I_l605, I_l1999, I_l2000]
  exact f10_needed_L hn rfl rfl hse hh hB hM hc hl hw hw2 4000 0 _ (by omega) (by omega) (by omega) (by omega)
