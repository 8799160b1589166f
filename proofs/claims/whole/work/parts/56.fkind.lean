-- the reference: kinds of groups
theorem f10_kind {W L R : Int → Int} {g a : Int} (h : (0 ≤ g ∧ g ≤ 120) ∧ 0 ≤ a ∧ a < g) (hL : 0 ≤ L a ∧ L a ≤ 1000) (hR : 0 ≤ R a ∧ R a ≤ 1000) (rm : rM W g L R) : pX10_kind (cz W) (I a) = some (I (knd (L a) (R a))) := by
  have e0 : sel 0 L R a = L a := rfl
  have e1 : sel 1 L R a = R a := rfl
  unfold pX10_kind knd
  simp only [if_true, if_false, I_add, I_sub, I_mul, I_neg, I_ofNat, Option.bind_some, kIn, I_l0, I_l1, I_l2, I_l3, I_l4, I_l5, I_l6, I_l8, I_l9, I_l10, I_l11, I_l32, I_l40, I_l43, I_l44, I_l45, I_l48, I_l49, I_l57, I_l58, I_l60, I_l61, I_l62, I_l79, I_l80, I_l100, I_l120, I_l180, I_l200, I_l240, I_l300, I_l360, I_l361, I_l362, I_l363, I_l364, I_l365, I_l485, I_l605, I_l1999, I_l2000]
  rw [f10_has (b := 0) ⟨h.1, h.2, by omega⟩ rm, f10_has (b := 1) ⟨h.1, h.2, by omega⟩ rm, e0, e1]
  simp (disch := omega) only [if_true, if_false, I_add, I_sub, I_mul, I_neg, I_ofNat, Option.bind_some, kIn, I_l0, I_l1, I_l2, I_l3, I_l4, I_l5, I_l6, I_l8, I_l9, I_l10, I_l11, I_l32, I_l40, I_l43, I_l44, I_l45, I_l48, I_l49, I_l57, I_l58, I_l60, I_l61, I_l62, I_l79, I_l80, I_l100, I_l120, I_l180, I_l200, I_l240, I_l300, I_l360, I_l361, I_l362, I_l363, I_l364, I_l365, I_l485, I_l605, I_l1999, I_l2000, I_eq]
  by_cases z1 : R a = 0
  · rw [if_pos z1, if_pos z1]
  · rw [if_neg z1, if_neg z1]
    by_cases z2 : L a = 0
    · rw [if_pos z2, if_pos z2]
    · rw [if_neg z2, if_neg z2]
      by_cases z3 : L a = 1
      · rw [if_pos z3]
        by_cases z4 : R a = 1
        · rw [if_pos z4, if_pos ⟨z3, z4⟩]
        · rw [if_neg z4, if_neg (by omega)]
      · rw [if_neg z3, if_neg (by omega)]
theorem f10_ofKind_L {W L R : Int → Int} {g x : Int} (h : (0 ≤ g ∧ g ≤ 120) ∧ -2147483648 ≤ x ∧ x ≤ 2147483647) (hL : ∀ i, 0 ≤ i → i < g → 0 ≤ L i ∧ L i ≤ 1000) (hR : ∀ i, 0 ≤ i → i < g → 0 ≤ R i ∧ R i ≤ 1000) (rm : rM W g L R) : ∀ (m : Nat) (s k : Int), 0 ≤ k → k ≤ g → g - k < m → s = ksm L R x k → pX10_ofKind_L4 (cz W) m (I x) (I s) (I k) = some (I (ksm L R x g)) := by
  intro m
  induction m with
  | zero => intro s k h0 h1 h2; omega
  | succ m ih =>
    intro s k h0 h1 h2 hs
    show pX10_ofKind_bL4 _ _ _ _ _ = _
    unfold pX10_ofKind_bL4 pX10_ofKind_j27
    rw [f10_groups, rm.1]
    by_cases q : k = g
    · subst q
      simp (disch := omega) only [if_true, if_false, I_add, I_sub, I_mul, I_neg, I_ofNat, Option.bind_some, kIn, I_l0, I_l1, I_l2, I_l3, I_l4, I_l5, I_l6, I_l8, I_l9, I_l10, I_l11, I_l32, I_l40, I_l43, I_l44, I_l45, I_l48, I_l49, I_l57, I_l58, I_l60, I_l61, I_l62, I_l79, I_l80, I_l100, I_l120, I_l180, I_l200, I_l240, I_l300, I_l360, I_l361, I_l362, I_l363, I_l364, I_l365, I_l485, I_l605, I_l1999, I_l2000, I_le, if_pos]
      rw [hs]
    · have e : ksm L R x (k + 1) = ksm L R x k + (if knd (L k) (R k) = x then 1 else 0) := Sm_s h0
      have hk : 0 ≤ knd (L k) (R k) ∧ knd (L k) (R k) ≤ 3 := by
        unfold knd
        split
        · omega
        · split
          · omega
          · split <;> omega
      rw [f10_kind (by omega) (hL k h0 (by omega)) (hR k h0 (by omega)) rm]
      simp (disch := omega) only [if_true, if_false, I_add, I_sub, I_mul, I_neg, I_ofNat, Option.bind_some, kIn, I_l0, I_l1, I_l2, I_l3, I_l4, I_l5, I_l6, I_l8, I_l9, I_l10, I_l11, I_l32, I_l40, I_l43, I_l44, I_l45, I_l48, I_l49, I_l57, I_l58, I_l60, I_l61, I_l62, I_l79, I_l80, I_l100, I_l120, I_l180, I_l200, I_l240, I_l300, I_l360, I_l361, I_l362, I_l363, I_l364, I_l365, I_l485, I_l605, I_l1999, I_l2000, I_le, I_eq, if_neg]
      by_cases g2 : knd (L k) (R k) = x
      · rw [if_pos g2] at e ⊢
        exact ih _ _ (by omega) (by omega) (by omega) (by omega)
      · rw [if_neg g2] at e ⊢
        exact ih _ _ (by omega) (by omega) (by omega) (by omega)
theorem f10_ofKind {W L R : Int → Int} {g x : Int} (h : (0 ≤ g ∧ g ≤ 120) ∧ -2147483648 ≤ x ∧ x ≤ 2147483647) (hL : ∀ i, 0 ≤ i → i < g → 0 ≤ L i ∧ L i ≤ 1000) (hR : ∀ i, 0 ≤ i → i < g → 0 ≤ R i ∧ R i ≤ 1000) (rm : rM W g L R) : pX10_ofKind (cz W) (I x) = some (I (ksm L R x g)) := by
  unfold pX10_ofKind
  simp only [if_true, if_false, I_add, I_sub, I_mul, I_neg, I_ofNat, Option.bind_some, kIn, I_l0, I_l1, I_l2, I_l3, I_l4, I_l5, I_l6, I_l8, I_l9, I_l10, I_l11, I_l32, I_l40, I_l43, I_l44, I_l45, I_l48, I_l49, I_l57, I_l58, I_l60, I_l61, I_l62, I_l79, I_l80, I_l100, I_l120, I_l180, I_l200, I_l240, I_l300, I_l360, I_l361, I_l362, I_l363, I_l364, I_l365, I_l485, I_l605, I_l1999, I_l2000]
  exact f10_ofKind_L h hL hR rm 4000 0 0 (by omega) (by omega) (by omega) rfl
