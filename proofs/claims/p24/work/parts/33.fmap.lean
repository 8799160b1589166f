-- out of 33.fmap
-- the map's methods
def sel (b : Int) (L R : Int → Int) : Int → Int := if b = 0 then L else R
theorem sel_0 {b : Int} {L R : Int → Int} (h : b = 0) : sel b L R = L := if_pos h
theorem sel_1 {b : Int} {L R : Int → Int} (h : ¬ b = 0) : sel b L R = R := if_neg h
theorem f1_has {n a : Int} (h : (0 ≤ n ∧ n ≤ 120) ∧ -2147483648 ≤ a ∧ a ≤ 2147483647) : pX1_has (I n) (I a) = some (I (if 0 ≤ a ∧ a < n then 1 else 0)) := by
  unfold pX1_has
  simp (disch := omega) only [if_true, if_false, I_add, I_sub, I_mul, I_neg, I_ofNat, Option.bind_some, kIn, I_l0, I_l1, I_l2, I_l3, I_l4, I_l5, I_l6, I_l7, I_l8, I_l9, I_l10, I_l11, I_l12, I_l13, I_l40, I_l43, I_l44, I_l45, I_l48, I_l57, I_l58, I_l60, I_l61, I_l62, I_l79, I_l80, I_l100, I_l101, I_l120, I_l200, I_l201, I_l1999, I_l2000, I_l2001, I_le, I_lt]
  repeat' split
  all_goals first | rfl | (exfalso; omega)
theorem f1_hasT {n a : Int} (h : (0 ≤ n ∧ n ≤ 120) ∧ 0 ≤ a ∧ a < n) : pX1_has (I n) (I a) = some (I 1) := by
  rw [f1_has (by omega), if_pos (by omega)]
theorem f1_hasF {n a : Int} (h : (0 ≤ n ∧ n ≤ 120) ∧ (-2147483648 ≤ a ∧ a ≤ 2147483647) ∧ ¬ (0 ≤ a ∧ a < n)) : pX1_has (I n) (I a) = some (I 0) := by
  rw [f1_has (by omega), if_neg (by omega)]
theorem f1_sizeOf {L R : Int → Int} {g a b : Int} (h : (0 ≤ g ∧ g ≤ 120) ∧ (-2147483648 ≤ a ∧ a ≤ 2147483647) ∧ -2147483648 ≤ b ∧ b ≤ 2147483647) : pX1_sizeOf (cz L) (cz R) (I g) (I a) (I b) = some (I (at0 (sel b L R) g a)) := by
  unfold pX1_sizeOf
  by_cases k : 0 ≤ a ∧ a < g
  · rw [f1_hasT (by omega), at0_in k]
    simp (disch := omega) only [if_true, if_false, I_add, I_sub, I_mul, I_neg, I_ofNat, Option.bind_some, kIn, I_l0, I_l1, I_l2, I_l3, I_l4, I_l5, I_l6, I_l7, I_l8, I_l9, I_l10, I_l11, I_l12, I_l13, I_l40, I_l43, I_l44, I_l45, I_l48, I_l57, I_l58, I_l60, I_l61, I_l62, I_l79, I_l80, I_l100, I_l101, I_l120, I_l200, I_l201, I_l1999, I_l2000, I_l2001, I_eq, if_neg, f9_cellOf, at0_in]
    by_cases hb : b = 0
    · rw [if_pos hb, sel_0 hb]
    · rw [if_neg hb, sel_1 hb]
  · rw [f1_hasF (by omega), at0_out k]
    simp (disch := omega) only [if_true, if_false, I_add, I_sub, I_mul, I_neg, I_ofNat, Option.bind_some, kIn, I_l0, I_l1, I_l2, I_l3, I_l4, I_l5, I_l6, I_l7, I_l8, I_l9, I_l10, I_l11, I_l12, I_l13, I_l40, I_l43, I_l44, I_l45, I_l48, I_l57, I_l58, I_l60, I_l61, I_l62, I_l79, I_l80, I_l100, I_l101, I_l120, I_l200, I_l201, I_l1999, I_l2000, I_l2001, I_eq, if_pos]
theorem f1_sizeIn {L R : Int → Int} {g a b : Int} (h : (0 ≤ g ∧ g ≤ 120) ∧ (0 ≤ a ∧ a < g) ∧ -2147483648 ≤ b ∧ b ≤ 2147483647) : pX1_sizeOf (cz L) (cz R) (I g) (I a) (I b) = some (I (sel b L R a)) := by
  rw [f1_sizeOf (by omega), at0_in (by omega)]
theorem f1_firstOf_L {L R : Int → Int} {g b e : Int} (h : (0 ≤ g ∧ g ≤ 120) ∧ (-2147483648 ≤ b ∧ b ≤ 2147483647) ∧ e ≤ g) : ∀ (m : Nat) (s k : Int), 0 ≤ k → k ≤ e → e - k < m → s = Sm (sel b L R) k → pX1_firstOf_L5 (cz L) (cz R) (I g) m (I e) (I b) (I s) (I k) = some (I (Sm (sel b L R) e)) := by
  intro m
  induction m with
  | zero => intro s k h0 h1 h2; omega
  | succ m ih =>
    intro s k h0 h1 h2 hs
    show pX1_firstOf_bL5 _ _ _ _ _ _ _ _ = _
    unfold pX1_firstOf_bL5
    by_cases q : k = e
    · subst q
      simp (disch := omega) only [if_true, if_false, I_add, I_sub, I_mul, I_neg, I_ofNat, Option.bind_some, kIn, I_l0, I_l1, I_l2, I_l3, I_l4, I_l5, I_l6, I_l7, I_l8, I_l9, I_l10, I_l11, I_l12, I_l13, I_l40, I_l43, I_l44, I_l45, I_l48, I_l57, I_l58, I_l60, I_l61, I_l62, I_l79, I_l80, I_l100, I_l101, I_l120, I_l200, I_l201, I_l1999, I_l2000, I_l2001, I_le, if_pos]
      rw [hs]
    · have e1 : Sm (sel b L R) (k + 1) = Sm (sel b L R) k + sel b L R k := Sm_s h0
      rw [f1_sizeIn (by omega)]
      simp (disch := omega) only [if_true, if_false, I_add, I_sub, I_mul, I_neg, I_ofNat, Option.bind_some, kIn, I_l0, I_l1, I_l2, I_l3, I_l4, I_l5, I_l6, I_l7, I_l8, I_l9, I_l10, I_l11, I_l12, I_l13, I_l40, I_l43, I_l44, I_l45, I_l48, I_l57, I_l58, I_l60, I_l61, I_l62, I_l79, I_l80, I_l100, I_l101, I_l120, I_l200, I_l201, I_l1999, I_l2000, I_l2001, I_le, if_neg]
      exact ih _ _ (by omega) (by omega) (by omega) (by omega)
theorem f1_firstOf {L R : Int → Int} {g b e : Int} (h : (0 ≤ g ∧ g ≤ 120) ∧ (-2147483648 ≤ b ∧ b ≤ 2147483647) ∧ 0 ≤ e ∧ e ≤ g) : pX1_firstOf (cz L) (cz R) (I g) (I e) (I b) = some (I (Sm (sel b L R) e)) := by
  unfold pX1_firstOf
  simp only [if_true, if_false, I_add, I_sub, I_mul, I_neg, I_ofNat, Option.bind_some, kIn, I_l0, I_l1, I_l2, I_l3, I_l4, I_l5, I_l6, I_l7, I_l8, I_l9, I_l10, I_l11, I_l12, I_l13, I_l40, I_l43, I_l44, I_l45, I_l48, I_l57, I_l58, I_l60, I_l61, I_l62, I_l79, I_l80, I_l100, I_l101, I_l120, I_l200, I_l201, I_l1999, I_l2000, I_l2001]
  exact f1_firstOf_L (by omega) 4000 0 0 (by omega) (by omega) (by omega) rfl
theorem f1_groupOf_L {L R : Int → Int} {g b v j : Int} (h : (0 ≤ g ∧ g ≤ 120) ∧ (-2147483648 ≤ b ∧ b ≤ 2147483647) ∧ (0 ≤ j ∧ j < g) ∧ 0 ≤ v ∧ v ≤ 100000) (hF : ∀ i, 0 ≤ i → i < g → 0 ≤ sel b L R i ∧ sel b L R i ≤ 1000) (h1 : Sm (sel b L R) j ≤ v) (h2 : v < Sm (sel b L R) (j + 1)) : ∀ (m : Nat) (s k : Int), 0 ≤ k → k ≤ j → j - k < m → s = Sm (sel b L R) k → pX1_groupOf_L5 (cz L) (cz R) (I g) m (I b) (I v) (I s) (I k) = some (I j) := by
  intro m
  induction m with
  | zero => intro s k h0 h1 h2; omega
  | succ m ih =>
    intro s k h0 h3 h4 hs
    show pX1_groupOf_bL5 _ _ _ _ _ _ _ _ = _
    unfold pX1_groupOf_bL5
    have e1 : Sm (sel b L R) (k + 1) = Sm (sel b L R) k + sel b L R k := Sm_s h0
    have e2 := Sm_nn (F := sel b L R) h0 (fun i a1 a2 => (hF i a1 (by omega)).1)
    have e3 := Sm_mono (F := sel b L R) h0 h3 (fun i a1 a2 => (hF i (by omega) (by omega)).1)
    have e4 := hF k h0 (by omega)
    rw [f1_sizeIn (by omega)]
    by_cases q : k = j
    · subst q
      simp (disch := omega) only [if_true, if_false, I_add, I_sub, I_mul, I_neg, I_ofNat, Option.bind_some, kIn, I_l0, I_l1, I_l2, I_l3, I_l4, I_l5, I_l6, I_l7, I_l8, I_l9, I_l10, I_l11, I_l12, I_l13, I_l40, I_l43, I_l44, I_l45, I_l48, I_l57, I_l58, I_l60, I_l61, I_l62, I_l79, I_l80, I_l100, I_l101, I_l120, I_l200, I_l201, I_l1999, I_l2000, I_l2001, I_le, if_neg]
    · have e5 := Sm_mono (F := sel b L R) (m := k + 1) (n := j) (by omega) (by omega) (fun i a1 a2 => (hF i (by omega) (by omega)).1)
      simp (disch := omega) only [if_true, if_false, I_add, I_sub, I_mul, I_neg, I_ofNat, Option.bind_some, kIn, I_l0, I_l1, I_l2, I_l3, I_l4, I_l5, I_l6, I_l7, I_l8, I_l9, I_l10, I_l11, I_l12, I_l13, I_l40, I_l43, I_l44, I_l45, I_l48, I_l57, I_l58, I_l60, I_l61, I_l62, I_l79, I_l80, I_l100, I_l101, I_l120, I_l200, I_l201, I_l1999, I_l2000, I_l2001, I_le, if_neg, if_pos]
      exact ih _ _ (by omega) (by omega) (by omega) (by omega)
theorem f1_groupOf {L R : Int → Int} {g b v j : Int} (h : (0 ≤ g ∧ g ≤ 120) ∧ (-2147483648 ≤ b ∧ b ≤ 2147483647) ∧ (0 ≤ j ∧ j < g) ∧ 0 ≤ v ∧ v ≤ 100000) (hF : ∀ i, 0 ≤ i → i < g → 0 ≤ sel b L R i ∧ sel b L R i ≤ 1000) (h1 : Sm (sel b L R) j ≤ v) (h2 : v < Sm (sel b L R) (j + 1)) : pX1_groupOf (cz L) (cz R) (I g) (I b) (I v) = some (I j) := by
  unfold pX1_groupOf
  simp only [if_true, if_false, I_add, I_sub, I_mul, I_neg, I_ofNat, Option.bind_some, kIn, I_l0, I_l1, I_l2, I_l3, I_l4, I_l5, I_l6, I_l7, I_l8, I_l9, I_l10, I_l11, I_l12, I_l13, I_l40, I_l43, I_l44, I_l45, I_l48, I_l57, I_l58, I_l60, I_l61, I_l62, I_l79, I_l80, I_l100, I_l101, I_l120, I_l200, I_l201, I_l1999, I_l2000, I_l2001]
  exact f1_groupOf_L h hF h1 h2 4000 0 0 (by omega) (by omega) (by omega) rfl
-- the kind of a group
def knd (l r : Int) : Int := if r = 0 then 1 else if l = 0 then 2 else if l = 1 ∧ r = 1 then 0 else 3
theorem knd_bd (l r : Int) : 0 ≤ knd l r ∧ knd l r ≤ 3 := by
  unfold knd
  repeat' split
  all_goals omega
theorem f1_kindOf {L R : Int → Int} {g a : Int} (h : (0 ≤ g ∧ g ≤ 120) ∧ 0 ≤ a ∧ a < g) (hL : 0 ≤ L a ∧ L a ≤ 1000) (hR : 0 ≤ R a ∧ R a ≤ 1000) : pX1_kindOf (cz L) (cz R) (I g) (I a) = some (I (knd (L a) (R a))) := by
  unfold pX1_kindOf knd
  simp only [if_true, if_false, I_add, I_sub, I_mul, I_neg, I_ofNat, Option.bind_some, kIn, I_l0, I_l1, I_l2, I_l3, I_l4, I_l5, I_l6, I_l7, I_l8, I_l9, I_l10, I_l11, I_l12, I_l13, I_l40, I_l43, I_l44, I_l45, I_l48, I_l57, I_l58, I_l60, I_l61, I_l62, I_l79, I_l80, I_l100, I_l101, I_l120, I_l200, I_l201, I_l1999, I_l2000, I_l2001]
  rw [f1_sizeIn (by omega), f1_sizeIn (by omega), sel_0 rfl, sel_1 (by omega)]
  simp (disch := omega) only [if_true, if_false, I_add, I_sub, I_mul, I_neg, I_ofNat, Option.bind_some, kIn, I_l0, I_l1, I_l2, I_l3, I_l4, I_l5, I_l6, I_l7, I_l8, I_l9, I_l10, I_l11, I_l12, I_l13, I_l40, I_l43, I_l44, I_l45, I_l48, I_l57, I_l58, I_l60, I_l61, I_l62, I_l79, I_l80, I_l100, I_l101, I_l120, I_l200, I_l201, I_l1999, I_l2000, I_l2001, I_eq]
  repeat' split
  all_goals first | rfl | (exfalso; omega)
def ksm (L R : Int → Int) (x g : Int) : Int := Sm (fun i => if knd (L i) (R i) = x then 1 else 0) g
theorem f1_kindTotal_L {L R : Int → Int} {g x : Int} (h : (0 ≤ g ∧ g ≤ 120) ∧ -2147483648 ≤ x ∧ x ≤ 2147483647) (hL : ∀ i, 0 ≤ i → i < g → 0 ≤ L i ∧ L i ≤ 1000) (hR : ∀ i, 0 ≤ i → i < g → 0 ≤ R i ∧ R i ≤ 1000) : ∀ (m : Nat) (s k : Int), 0 ≤ k → k ≤ g → g - k < m → s = ksm L R x k → pX1_kindTotal_L4 (cz L) (cz R) (I g) m (I x) (I s) (I k) = some (I (ksm L R x g)) := by
  intro m
  induction m with
  | zero => intro s k h0 h1 h2; omega
  | succ m ih =>
    intro s k h0 h1 h2 hs
    show pX1_kindTotal_bL4 _ _ _ _ _ _ _ = _
    unfold pX1_kindTotal_bL4 pX1_kindTotal_j27
    by_cases q : k = g
    · subst q
      simp (disch := omega) only [if_true, if_false, I_add, I_sub, I_mul, I_neg, I_ofNat, Option.bind_some, kIn, I_l0, I_l1, I_l2, I_l3, I_l4, I_l5, I_l6, I_l7, I_l8, I_l9, I_l10, I_l11, I_l12, I_l13, I_l40, I_l43, I_l44, I_l45, I_l48, I_l57, I_l58, I_l60, I_l61, I_l62, I_l79, I_l80, I_l100, I_l101, I_l120, I_l200, I_l201, I_l1999, I_l2000, I_l2001, I_le, if_pos]
      rw [hs]
    · have e1 : ksm L R x (k + 1) = ksm L R x k + (if knd (L k) (R k) = x then 1 else 0) := Sm_s h0
      have e2 := knd_bd (L k) (R k)
      rw [f1_kindOf (by omega) (hL k h0 (by omega)) (hR k h0 (by omega))]
      simp (disch := omega) only [if_true, if_false, I_add, I_sub, I_mul, I_neg, I_ofNat, Option.bind_some, kIn, I_l0, I_l1, I_l2, I_l3, I_l4, I_l5, I_l6, I_l7, I_l8, I_l9, I_l10, I_l11, I_l12, I_l13, I_l40, I_l43, I_l44, I_l45, I_l48, I_l57, I_l58, I_l60, I_l61, I_l62, I_l79, I_l80, I_l100, I_l101, I_l120, I_l200, I_l201, I_l1999, I_l2000, I_l2001, I_le, I_eq, if_neg]
      by_cases q2 : knd (L k) (R k) = x
      · rw [if_pos q2] at e1 ⊢
        exact ih _ _ (by omega) (by omega) (by omega) (by omega)
      · rw [if_neg q2] at e1 ⊢
        exact ih _ _ (by omega) (by omega) (by omega) (by omega)
theorem f1_kindTotal {L R : Int → Int} {g x : Int} (h : (0 ≤ g ∧ g ≤ 120) ∧ -2147483648 ≤ x ∧ x ≤ 2147483647) (hL : ∀ i, 0 ≤ i → i < g → 0 ≤ L i ∧ L i ≤ 1000) (hR : ∀ i, 0 ≤ i → i < g → 0 ≤ R i ∧ R i ≤ 1000) : pX1_kindTotal (cz L) (cz R) (I g) (I x) = some (I (ksm L R x g)) := by
  unfold pX1_kindTotal
  simp only [if_true, if_false, I_add, I_sub, I_mul, I_neg, I_ofNat, Option.bind_some, kIn, I_l0, I_l1, I_l2, I_l3, I_l4, I_l5, I_l6, I_l7, I_l8, I_l9, I_l10, I_l11, I_l12, I_l13, I_l40, I_l43, I_l44, I_l45, I_l48, I_l57, I_l58, I_l60, I_l61, I_l62, I_l79, I_l80, I_l100, I_l101, I_l120, I_l200, I_l201, I_l1999, I_l2000, I_l2001]
  exact f1_kindTotal_L h hL hR 4000 0 0 (by omega) (by omega) (by omega) rfl
def alk (L R : Int → Int) (g : Int) : Int := Sm (fun i => if L i = R i then 1 else 0) g
theorem f1_alikeTotal_L {L R : Int → Int} {g : Int} (h : 0 ≤ g ∧ g ≤ 120) (hL : ∀ i, 0 ≤ i → i < g → 0 ≤ L i ∧ L i ≤ 1000) (hR : ∀ i, 0 ≤ i → i < g → 0 ≤ R i ∧ R i ≤ 1000) : ∀ (m : Nat) (s k : Int), 0 ≤ k → k ≤ g → g - k < m → s = alk L R k → pX1_alikeTotal_L4 (cz L) (cz R) (I g) m (I s) (I k) = some (I (alk L R g)) := by
  intro m
  induction m with
  | zero => intro s k h0 h1 h2; omega
  | succ m ih =>
    intro s k h0 h1 h2 hs
    show pX1_alikeTotal_bL4 _ _ _ _ _ _ = _
    unfold pX1_alikeTotal_bL4 pX1_alikeTotal_j33
    by_cases q : k = g
    · subst q
      simp (disch := omega) only [if_true, if_false, I_add, I_sub, I_mul, I_neg, I_ofNat, Option.bind_some, kIn, I_l0, I_l1, I_l2, I_l3, I_l4, I_l5, I_l6, I_l7, I_l8, I_l9, I_l10, I_l11, I_l12, I_l13, I_l40, I_l43, I_l44, I_l45, I_l48, I_l57, I_l58, I_l60, I_l61, I_l62, I_l79, I_l80, I_l100, I_l101, I_l120, I_l200, I_l201, I_l1999, I_l2000, I_l2001, I_le, if_pos]
      rw [hs]
    · have e1 : alk L R (k + 1) = alk L R k + (if L k = R k then 1 else 0) := Sm_s h0
      have e2 := hL k h0 (by omega)
      have e3 := hR k h0 (by omega)
      simp only [if_true, if_false, I_add, I_sub, I_mul, I_neg, I_ofNat, Option.bind_some, kIn, I_l0, I_l1, I_l2, I_l3, I_l4, I_l5, I_l6, I_l7, I_l8, I_l9, I_l10, I_l11, I_l12, I_l13, I_l40, I_l43, I_l44, I_l45, I_l48, I_l57, I_l58, I_l60, I_l61, I_l62, I_l79, I_l80, I_l100, I_l101, I_l120, I_l200, I_l201, I_l1999, I_l2000, I_l2001]
      rw [f1_sizeIn (by omega), f1_sizeIn (by omega), sel_0 rfl, sel_1 (by omega)]
      simp (disch := omega) only [if_true, if_false, I_add, I_sub, I_mul, I_neg, I_ofNat, Option.bind_some, kIn, I_l0, I_l1, I_l2, I_l3, I_l4, I_l5, I_l6, I_l7, I_l8, I_l9, I_l10, I_l11, I_l12, I_l13, I_l40, I_l43, I_l44, I_l45, I_l48, I_l57, I_l58, I_l60, I_l61, I_l62, I_l79, I_l80, I_l100, I_l101, I_l120, I_l200, I_l201, I_l1999, I_l2000, I_l2001, I_le, I_eq, if_neg]
      by_cases q2 : L k = R k
      · rw [if_pos q2] at e1 ⊢
        exact ih _ _ (by omega) (by omega) (by omega) (by omega)
      · rw [if_neg q2] at e1 ⊢
        exact ih _ _ (by omega) (by omega) (by omega) (by omega)
theorem f1_alikeTotal {L R : Int → Int} {g : Int} (h : 0 ≤ g ∧ g ≤ 120) (hL : ∀ i, 0 ≤ i → i < g → 0 ≤ L i ∧ L i ≤ 1000) (hR : ∀ i, 0 ≤ i → i < g → 0 ≤ R i ∧ R i ≤ 1000) : pX1_alikeTotal (cz L) (cz R) (I g) = some (I (alk L R g)) := by
  unfold pX1_alikeTotal
  simp only [if_true, if_false, I_add, I_sub, I_mul, I_neg, I_ofNat, Option.bind_some, kIn, I_l0, I_l1, I_l2, I_l3, I_l4, I_l5, I_l6, I_l7, I_l8, I_l9, I_l10, I_l11, I_l12, I_l13, I_l40, I_l43, I_l44, I_l45, I_l48, I_l57, I_l58, I_l60, I_l61, I_l62, I_l79, I_l80, I_l100, I_l101, I_l120, I_l200, I_l201, I_l1999, I_l2000, I_l2001]
  exact f1_alikeTotal_L h hL hR 4000 0 0 (by omega) (by omega) (by omega) rfl
theorem f1_put {L R : Int → Int} {g a x y : Int} (h : (0 ≤ g ∧ g ≤ 120) ∧ 0 ≤ a ∧ a < g) : pX1_put (cz L) (cz R) (I g) (I a) (I x) (I y) = some (cz (up L a x), cz (up R a y)) := by
  unfold pX1_put
  rw [f1_hasT (by omega)]
  simp (disch := omega) only [if_true, if_false, I_add, I_sub, I_mul, I_neg, I_ofNat, Option.bind_some, kIn, I_l0, I_l1, I_l2, I_l3, I_l4, I_l5, I_l6, I_l7, I_l8, I_l9, I_l10, I_l11, I_l12, I_l13, I_l40, I_l43, I_l44, I_l45, I_l48, I_l57, I_l58, I_l60, I_l61, I_l62, I_l79, I_l80, I_l100, I_l101, I_l120, I_l200, I_l201, I_l1999, I_l2000, I_l2001, I_le, I_lt, I_eq, I_toInt, cz_at, cz_up, if_pos, if_neg]
theorem f1_append {L R : Int → Int} {g x y : Int} (h : 0 ≤ g ∧ g < 120) : pX1_append (cz L) (cz R) (I g) (I x) (I y) = some (cz (up L g x), cz (up R g y), I (g + 1)) := by
  unfold pX1_append
  simp only [if_true, if_false, I_add, I_sub, I_mul, I_neg, I_ofNat, Option.bind_some, kIn, I_l0, I_l1, I_l2, I_l3, I_l4, I_l5, I_l6, I_l7, I_l8, I_l9, I_l10, I_l11, I_l12, I_l13, I_l40, I_l43, I_l44, I_l45, I_l48, I_l57, I_l58, I_l60, I_l61, I_l62, I_l79, I_l80, I_l100, I_l101, I_l120, I_l200, I_l201, I_l1999, I_l2000, I_l2001]
  rw [show g + 1 - 1 = g by omega, f1_put (by omega)]
  simp (disch := omega) only [if_true, if_false, I_add, I_sub, I_mul, I_neg, I_ofNat, Option.bind_some, kIn, I_l0, I_l1, I_l2, I_l3, I_l4, I_l5, I_l6, I_l7, I_l8, I_l9, I_l10, I_l11, I_l12, I_l13, I_l40, I_l43, I_l44, I_l45, I_l48, I_l57, I_l58, I_l60, I_l61, I_l62, I_l79, I_l80, I_l100, I_l101, I_l120, I_l200, I_l201, I_l1999, I_l2000, I_l2001, I_le, if_neg]
theorem f1_appendN {L R : Int → Int} {g x y : Int} (h : 0 ≤ g ∧ g ≤ 120) : ∃ (L2 R2 : Int → Int) (g2 : Int), (0 ≤ g2 ∧ g2 ≤ 120) ∧ pX1_append (cz L) (cz R) (I g) (I x) (I y) = some (cz L2, cz R2, I g2) := by
  by_cases q : g < 120
  · exact ⟨_, _, _, by omega, f1_append (by omega)⟩
  · refine ⟨L, R, g, h, ?_⟩
    unfold pX1_append
    simp (disch := omega) only [if_true, if_false, I_add, I_sub, I_mul, I_neg, I_ofNat, Option.bind_some, kIn, I_l0, I_l1, I_l2, I_l3, I_l4, I_l5, I_l6, I_l7, I_l8, I_l9, I_l10, I_l11, I_l12, I_l13, I_l40, I_l43, I_l44, I_l45, I_l48, I_l57, I_l58, I_l60, I_l61, I_l62, I_l79, I_l80, I_l100, I_l101, I_l120, I_l200, I_l201, I_l1999, I_l2000, I_l2001, I_le, if_pos]
theorem f1_resize {L R : Int → Int} {g a b d : Int} (h : (0 ≤ g ∧ g ≤ 120) ∧ (0 ≤ a ∧ a < g) ∧ 0 ≤ b ∧ b ≤ 1) : pX1_resize (cz L) (cz R) (I g) (I a) (I b) (I d) = some (cz (up L a (L a + if b = 0 then d else 0)), cz (up R a (R a + if b = 1 then d else 0))) := by
  unfold pX1_resize pX1_resize_j15 pX1_resize_j34
  simp only [if_true, if_false, I_add, I_sub, I_mul, I_neg, I_ofNat, Option.bind_some, kIn, I_l0, I_l1, I_l2, I_l3, I_l4, I_l5, I_l6, I_l7, I_l8, I_l9, I_l10, I_l11, I_l12, I_l13, I_l40, I_l43, I_l44, I_l45, I_l48, I_l57, I_l58, I_l60, I_l61, I_l62, I_l79, I_l80, I_l100, I_l101, I_l120, I_l200, I_l201, I_l1999, I_l2000, I_l2001]
  rw [f1_sizeIn (by omega), f1_sizeIn (by omega), sel_0 rfl, sel_1 (by omega)]
  simp (disch := omega) only [if_true, if_false, I_add, I_sub, I_mul, I_neg, I_ofNat, Option.bind_some, kIn, I_l0, I_l1, I_l2, I_l3, I_l4, I_l5, I_l6, I_l7, I_l8, I_l9, I_l10, I_l11, I_l12, I_l13, I_l40, I_l43, I_l44, I_l45, I_l48, I_l57, I_l58, I_l60, I_l61, I_l62, I_l79, I_l80, I_l100, I_l101, I_l120, I_l200, I_l201, I_l1999, I_l2000, I_l2001, I_eq]
  by_cases q : b = 0
  · subst q
    simp (disch := omega) only [if_pos, if_neg]
    rw [f1_put (by omega)]
    rfl
  · have q1 : b = 1 := by omega
    subst q1
    simp (disch := omega) only [if_pos, if_neg]
    rw [f1_put (by omega)]
    rfl
theorem f1_merge0 {L R : Int → Int} {g a : Int} (h : (0 ≤ g ∧ g ≤ 120) ∧ 0 ≤ a ∧ a < g) : pX1_merge (cz L) (cz R) (I g) (I a) (I a) = some (cz L, cz R, I g) := by
  unfold pX1_merge
  rw [f1_hasT (by omega)]
  simp (disch := omega) only [if_true, if_false, I_add, I_sub, I_mul, I_neg, I_ofNat, Option.bind_some, kIn, I_l0, I_l1, I_l2, I_l3, I_l4, I_l5, I_l6, I_l7, I_l8, I_l9, I_l10, I_l11, I_l12, I_l13, I_l40, I_l43, I_l44, I_l45, I_l48, I_l57, I_l58, I_l60, I_l61, I_l62, I_l79, I_l80, I_l100, I_l101, I_l120, I_l200, I_l201, I_l1999, I_l2000, I_l2001, I_eq, I_lt, if_neg]
theorem f1_merge {L R : Int → Int} {g a c : Int} (h : (0 ≤ g ∧ g ≤ 120) ∧ 0 ≤ a ∧ a < c ∧ c < g) : pX1_merge (cz L) (cz R) (I g) (I a) (I c) = some (cz (cls (up L a (Sm L c - Sm L a + L c)) 120 (a + 1) (c - a) g), cz (cls (up R a (Sm R c - Sm R a + R c)) 120 (a + 1) (c - a) g), I (g - (c - a))) := by
  unfold pX1_merge
  simp only [if_true, if_false, I_add, I_sub, I_mul, I_neg, I_ofNat, Option.bind_some, kIn, I_l0, I_l1, I_l2, I_l3, I_l4, I_l5, I_l6, I_l7, I_l8, I_l9, I_l10, I_l11, I_l12, I_l13, I_l40, I_l43, I_l44, I_l45, I_l48, I_l57, I_l58, I_l60, I_l61, I_l62, I_l79, I_l80, I_l100, I_l101, I_l120, I_l200, I_l201, I_l1999, I_l2000, I_l2001]
  rw [f1_hasT (by omega), f1_hasT (by omega), f1_firstOf (by omega), f1_firstOf (by omega), f1_sizeIn (by omega), f1_firstOf (by omega), f1_firstOf (by omega), f1_sizeIn (by omega), sel_0 rfl, sel_1 (by omega)]
  simp (disch := omega) only [if_true, if_false, I_add, I_sub, I_mul, I_neg, I_ofNat, Option.bind_some, kIn, I_l0, I_l1, I_l2, I_l3, I_l4, I_l5, I_l6, I_l7, I_l8, I_l9, I_l10, I_l11, I_l12, I_l13, I_l40, I_l43, I_l44, I_l45, I_l48, I_l57, I_l58, I_l60, I_l61, I_l62, I_l79, I_l80, I_l100, I_l101, I_l120, I_l200, I_l201, I_l1999, I_l2000, I_l2001, I_eq, I_lt, if_neg, if_pos]
  rw [f1_put (by omega)]
  simp only [if_true, if_false, I_add, I_sub, I_mul, I_neg, I_ofNat, Option.bind_some, kIn, I_l0, I_l1, I_l2, I_l3, I_l4, I_l5, I_l6, I_l7, I_l8, I_l9, I_l10, I_l11, I_l12, I_l13, I_l40, I_l43, I_l44, I_l45, I_l48, I_l57, I_l58, I_l60, I_l61, I_l62, I_l79, I_l80, I_l100, I_l101, I_l120, I_l200, I_l201, I_l1999, I_l2000, I_l2001]
  rw [f9_closeCells (by omega), f9_closeCells (by omega)]
  rfl
theorem f1_cut {L R : Int → Int} {g a x y : Int} (h : (0 ≤ g ∧ g < 120) ∧ 0 ≤ a ∧ a < g) : pX1_cut (cz L) (cz R) (I g) (I a) (I x) (I y) = some (cz (up (up (opn L 120 a g) a x) (a + 1) (L a - x)), cz (up (up (opn R 120 a g) a y) (a + 1) (R a - y)), I (g + 1)) := by
  unfold pX1_cut
  simp only [if_true, if_false, I_add, I_sub, I_mul, I_neg, I_ofNat, Option.bind_some, kIn, I_l0, I_l1, I_l2, I_l3, I_l4, I_l5, I_l6, I_l7, I_l8, I_l9, I_l10, I_l11, I_l12, I_l13, I_l40, I_l43, I_l44, I_l45, I_l48, I_l57, I_l58, I_l60, I_l61, I_l62, I_l79, I_l80, I_l100, I_l101, I_l120, I_l200, I_l201, I_l1999, I_l2000, I_l2001]
  rw [f1_hasT (by omega), f1_sizeIn (by omega), f1_sizeIn (by omega), f9_openCell (by omega), f9_openCell (by omega), sel_0 rfl, sel_1 (by omega)]
  simp (disch := omega) only [if_true, if_false, I_add, I_sub, I_mul, I_neg, I_ofNat, Option.bind_some, kIn, I_l0, I_l1, I_l2, I_l3, I_l4, I_l5, I_l6, I_l7, I_l8, I_l9, I_l10, I_l11, I_l12, I_l13, I_l40, I_l43, I_l44, I_l45, I_l48, I_l57, I_l58, I_l60, I_l61, I_l62, I_l79, I_l80, I_l100, I_l101, I_l120, I_l200, I_l201, I_l1999, I_l2000, I_l2001, I_eq, I_lt, if_neg, if_pos]
  rw [f1_put (by omega)]
  simp only [if_true, if_false, I_add, I_sub, I_mul, I_neg, I_ofNat, Option.bind_some, kIn, I_l0, I_l1, I_l2, I_l3, I_l4, I_l5, I_l6, I_l7, I_l8, I_l9, I_l10, I_l11, I_l12, I_l13, I_l40, I_l43, I_l44, I_l45, I_l48, I_l57, I_l58, I_l60, I_l61, I_l62, I_l79, I_l80, I_l100, I_l101, I_l120, I_l200, I_l201, I_l1999, I_l2000, I_l2001]
  rw [f1_put (by omega)]
  rfl
theorem f1_copyFrom {f g : Nat → Int32} {n : Int32} : pX1_copyFrom f g n = some (f, g, n) := rfl

