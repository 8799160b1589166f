-- the reference: what stays empty
section EMP
variable {W w c0 l0 o0 c1 l1 o1 L R : Int → Int} {n0 n1 g h : Int}
theorem f10_empty_L (hB0 : okB n0 c0 l0 o0) (hB1 : okB n1 c1 l1 o1) (hM : okM g L R n0 n1) (r0 : rB W 0 n0 c0 l0 o0) (r1 : rB W 1 n1 c1 l1 o1) (rm : rM W g L R) (hw : (-100000 ≤ w 0 ∧ w 0 ≤ 100000) ∧ -100000 ≤ w 1 ∧ w 1 ≤ 100000) (hw2 : (1 ≤ wdt w 0 ∧ wdt w 0 ≤ 200) ∧ 1 ≤ wdt w 1 ∧ wdt w 1 ≤ 200) (hh : 0 ≤ h ∧ h ≤ 5) : ∀ (m : Nat) (s k : Int), 0 ≤ k → k ≤ g → g - k < m → s = Sm (emp c0 l0 c1 l1 L R (wdt w 0) (wdt w 1) h) k → pX10_empty_L4 (cz W) (cz w) (I h) m (I s) (I k) = some (I (Sm (emp c0 l0 c1 l1 L R (wdt w 0) (wdt w 1) h) g)) := by
  have hg := hM.1
  intro m
  induction m with
  | zero => intro s k h0 h1 h2; omega
  | succ m ih =>
    intro s k h0 h1 h2 hs
    show pX10_empty_bL4 _ _ _ _ _ _ = _
    unfold pX10_empty_bL4 pX10_empty_j37
    rw [f10_groups, rm.1]
    by_cases q : k = g
    · subst q
      simp (disch := omega) only [if_true, if_false, I_add, I_sub, I_mul, I_neg, I_ofNat, Option.bind_some, kIn, I_l0, I_l1, I_l2, I_l3, I_l4, I_l5, I_l6, I_l8, I_l9, I_l10, I_l11, I_l32, I_l40, I_l43, I_l44, I_l45, I_l48, I_l49, I_l57, I_l58, I_l60, I_l61, I_l62, I_l79, I_l80, I_l100, I_l120, I_l180, I_l200, I_l240, I_l300, I_l360, I_l361, I_l362, I_l363, I_l364, I_l365, I_l485, I_l605, I_l1999, I_l2000, I_le, if_pos]
      rw [hs]
    · have e : Sm (emp c0 l0 c1 l1 L R (wdt w 0) (wdt w 1) h) (k + 1) = Sm (emp c0 l0 c1 l1 L R (wdt w 0) (wdt w 1) h) k + ab (ned (vln c0 l0 (wdt w 0) h) L k - ned (vln c1 l1 (wdt w 1) h) R k) := Sm_s h0
      have v0 := ned_v hB0 (S := L) (fun i a b => (hM.2.1 i a b).1.1) hM.2.2.1 hw2.1 hh k h0 (by omega)
      have v1 := ned_v hB1 (S := R) (fun i a b => (hM.2.1 i a b).2.1.1) hM.2.2.2 hw2.2 hh k h0 (by omega)
      simp only [if_true, if_false, I_add, I_sub, I_mul, I_neg, I_ofNat, Option.bind_some, kIn, I_l0, I_l1, I_l2, I_l3, I_l4, I_l5, I_l6, I_l8, I_l9, I_l10, I_l11, I_l32, I_l40, I_l43, I_l44, I_l45, I_l48, I_l49, I_l57, I_l58, I_l60, I_l61, I_l62, I_l79, I_l80, I_l100, I_l120, I_l180, I_l200, I_l240, I_l300, I_l360, I_l361, I_l362, I_l363, I_l364, I_l365, I_l485, I_l605, I_l1999, I_l2000]
      rw [f10_needed0 (by omega) hB0 hM r0 rm hw.1 hw2.1 hh, f10_needed1 (by omega) hB1 hM r1 rm hw.2 hw2.2 hh]
      simp (disch := omega) only [if_true, if_false, I_add, I_sub, I_mul, I_neg, I_ofNat, Option.bind_some, kIn, I_l0, I_l1, I_l2, I_l3, I_l4, I_l5, I_l6, I_l8, I_l9, I_l10, I_l11, I_l32, I_l40, I_l43, I_l44, I_l45, I_l48, I_l49, I_l57, I_l58, I_l60, I_l61, I_l62, I_l79, I_l80, I_l100, I_l120, I_l180, I_l200, I_l240, I_l300, I_l360, I_l361, I_l362, I_l363, I_l364, I_l365, I_l485, I_l605, I_l1999, I_l2000, I_le, if_neg]
      unfold ab at e
      by_cases z : 0 ≤ ned (vln c0 l0 (wdt w 0) h) L k - ned (vln c1 l1 (wdt w 1) h) R k
      · rw [if_pos z] at e ⊢
        exact ih _ _ (by omega) (by omega) (by omega) (by omega)
      · rw [if_neg z] at e ⊢
        exact ih _ _ (by omega) (by omega) (by omega) (by omega)
theorem f10_empty (hB0 : okB n0 c0 l0 o0) (hB1 : okB n1 c1 l1 o1) (hM : okM g L R n0 n1) (r0 : rB W 0 n0 c0 l0 o0) (r1 : rB W 1 n1 c1 l1 o1) (rm : rM W g L R) (hw : (-100000 ≤ w 0 ∧ w 0 ≤ 100000) ∧ -100000 ≤ w 1 ∧ w 1 ≤ 100000) (hw2 : (1 ≤ wdt w 0 ∧ wdt w 0 ≤ 200) ∧ 1 ≤ wdt w 1 ∧ wdt w 1 ≤ 200) (hh : 0 ≤ h ∧ h ≤ 5) : pX10_empty (cz W) (cz w) (I h) = some (I (Sm (emp c0 l0 c1 l1 L R (wdt w 0) (wdt w 1) h) g)) := by
  have hg := hM.1
  unfold pX10_empty
  simp only [if_true, if_false, I_add, I_sub, I_mul, I_neg, I_ofNat, Option.bind_some, kIn, I_l0, I_l1, I_l2, I_l3, I_l4, I_l5, I_l6, I_l8, I_l9, I_l10, I_l11, I_l32, I_l40, I_l43, I_l44, I_l45, I_l48, I_l49, I_l57, I_l58, I_l60, I_l61, I_l62, I_l79, I_l80, I_l100, I_l120, I_l180, I_l200, I_l240, I_l300, I_l360, I_l361, I_l362, I_l363, I_l364, I_l365, I_l485, I_l605, I_l1999, I_l2000]
  exact f10_empty_L hB0 hB1 hM r0 r1 rm hw hw2 hh 4000 0 0 (by omega) (by omega) (by omega) rfl
end EMP
