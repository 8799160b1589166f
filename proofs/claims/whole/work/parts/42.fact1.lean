-- acts on the map: both sides alike
theorem rB.lo {W V : Int → Int} {b n : Int} {c l o : Int → Int} (hb : 0 ≤ b ∧ b ≤ 1) (hn : n ≤ 60) (h : ∀ i, i < 364 → V i = W i) (r : rB W b n c l o) : rB V b n c l o := by
  obtain ⟨r1, r2, r3⟩ := r
  refine ⟨by rw [h _ (by omega)]; exact r1, by rw [h _ (by omega)]; exact r2, fun i a b => ?_⟩
  obtain ⟨q1, q2, q3⟩ := r3 i a b
  exact ⟨by rw [h _ (by omega)]; exact q1, by rw [h _ (by omega)]; exact q2, by rw [h _ (by omega)]; exact q3⟩
theorem rM.val {W : Int → Int} {g : Int} {L R L2 R2 : Int → Int} (h : ∀ i, 0 ≤ i → i < g → L2 i = L i ∧ R2 i = R i) (r : rM W g L R) : rM W g L2 R2 :=
  ⟨r.1, fun i a b => by rw [(h i a b).1, (h i a b).2]; exact r.2 i a b⟩
theorem okM.val {g m n : Int} {L R L2 R2 : Int → Int} (h : ∀ i, 0 ≤ i → i < g → L2 i = L i ∧ R2 i = R i) (r : okM g L R m n) : okM g L2 R2 m n := by
  refine ⟨r.1, fun i a b => by rw [(h i a b).1, (h i a b).2]; exact r.2.1 i a b, ?_, ?_⟩
  · rw [Sm_congr r.1.1 (fun i a b => (h i a b).1)]; exact r.2.2.1
  · rw [Sm_congr r.1.1 (fun i a b => (h i a b).2)]; exact r.2.2.2
theorem f1_mergeM {L R : Int → Int} {g a c : Int} (h : (0 ≤ g ∧ g ≤ 120) ∧ 0 ≤ a ∧ a ≤ c ∧ c < g) : ∃ L2 R2 : Int → Int, (∀ i, 0 ≤ i → i < g - (c - a) → L2 i = mrg L a c i ∧ R2 i = mrg R a c i) ∧ pX1_merge (cz L) (cz R) (I g) (I a) (I c) = some (cz L2, cz R2, I (g - (c - a))) := by
  by_cases q : a = c
  · subst q
    refine ⟨L, R, fun i x y => ?_, by rw [f1_merge0 (by omega), show g - (a - a) = g by omega]⟩
    have e1 : Sm L (a + 1) = Sm L a + L a := Sm_s (by omega)
    have e2 : Sm R (a + 1) = Sm R a + R a := Sm_s (by omega)
    unfold mrg
    by_cases z : i < a
    · rw [if_pos z, if_pos z]; exact ⟨rfl, rfl⟩
    · by_cases z2 : i = a
      · rw [if_neg z, if_pos z2, if_neg z, if_pos z2, z2]
        omega
      · rw [if_neg z, if_neg z2, if_neg z, if_neg z2, show i + (a - a) = i by omega]
        exact ⟨rfl, rfl⟩
  · exact ⟨_, _, fun i x y => ⟨mrg_class (by omega) ⟨x, y⟩, mrg_class (by omega) ⟨x, y⟩⟩, f1_merge (by omega)⟩
theorem okM_mrg {g m n a c : Int} {L R : Int → Int} (h : okM g L R m n) (hmn : m ≤ 60 ∧ n ≤ 60) (hac : 0 ≤ a ∧ a ≤ c ∧ c < g) : okM (g - (c - a)) (mrg L a c) (mrg R a c) m n := by
  have hL : ∀ i, 0 ≤ i → i < g → 0 ≤ L i := fun i x y => (h.2.1 i x y).1.1
  have hR : ∀ i, 0 ≤ i → i < g → 0 ≤ R i := fun i x y => (h.2.1 i x y).2.1.1
  refine okM_mk (by omega) (fun i x y => ?_) ((Sm_mrg hac).trans h.2.2.1) ((Sm_mrg hac).trans h.2.2.2) hmn
  unfold mrg
  by_cases z : i < a
  · rw [if_pos z, if_pos z]
    have := h.2.1 i x (by omega)
    omega
  · by_cases z2 : i = a
    · rw [if_neg z, if_pos z2, if_neg z, if_pos z2]
      have e1 : Sm L (a + 1) = Sm L a + L a := Sm_s (by omega)
      have e2 : Sm R (a + 1) = Sm R a + R a := Sm_s (by omega)
      have e3 := Sm_mono (F := L) (m := a + 1) (n := c + 1) (by omega) (by omega) (fun j u v => hL j (by omega) (by omega))
      have e4 := Sm_mono (F := R) (m := a + 1) (n := c + 1) (by omega) (by omega) (fun j u v => hR j (by omega) (by omega))
      have := h.2.1 a (by omega) (by omega)
      omega
    · rw [if_neg z, if_neg z2, if_neg z, if_neg z2]
      have := h.2.1 (i + (c - a)) (by omega) (by omega)
      omega
section ACT
variable {k : Int} {s0 s1 s2 s3 s4 : vST} {V W : Int → Int} {vL0 vL1 vL2 : Nat → Int32} {vL3 : Int32} {vR0 vR1 vR2 : Nat → Int32} {vR3 : Int32} {vM0 vM1 : Nat → Int32} {vM2 : Int32}
theorem e_link (hH : rH k s0 s1 s2 s3 s4 V) (hS : rS ((vL0, vL1, vL2, vL3), (vR0, vR1, vR2, vR3), (vM0, vM1, vM2)) W) (i1 : Int32) : ∃ (a : Int32) (m0 m1 : Nat → Int32) (m2 : Int32) (k2 : Int) (r : Nat) (t0 t1 t2 t3 t4 : vST) (V2 W2 : Int → Int), pX9_link vL0 vL1 vL2 vL3 vR0 vR1 vR2 vR3 vM0 vM1 vM2 (I k) s0 s1 s2 s3 s4 i1 = some (a, m0, m1, m2, I k2, r, t0, t1, t2, t3, t4) ∧ pX10_link (cz W) (cz V) (I k) i1 = some (a, cz W2, cz V2, I k2) ∧ rS ((vL0, vL1, vL2, vL3), (vR0, vR1, vR2, vR3), (m0, m1, m2)) W2 ∧ rHr r k2 t0 t1 t2 t3 t4 V2 := by
  obtain ⟨a, ha, rfl⟩ := I_of i1
  obtain ⟨c0, l0, o0, n0, c1, l1, o1, n1, L, R, g, e, k0, k1, kM, r0, r1, rm⟩ := id hS
  simp only [Prod.mk.injEq] at e
  obtain ⟨⟨rfl, rfl, rfl, rfl⟩, ⟨rfl, rfl, rfl, rfl⟩, rfl, rfl, rfl⟩ := e
  have hg := kM.1
  by_cases q : 0 ≤ a ∧ a < g
  · by_cases q2 : a + 1 < g
    · obtain ⟨k2, r, t0, t1, t2, t3, t4, V2, hh, e1, e2⟩ := e_record hH hS
      obtain ⟨W2, u1, u2, u3⟩ := f10_joinGroups (W := W) (L := L) (R := R) (g := g) (a := a) (c := a + 1) (by omega) rm
      obtain ⟨L2, R2, u4, u5⟩ := f1_mergeM (L := L) (R := R) (g := g) (a := a) (c := a + 1) (by omega)
      refine ⟨I (g - (a + 1 - a)), cz L2, cz R2, I (g - (a + 1 - a)), k2, r, t0, t1, t2, t3, t4, V2, W2, ?_, ?_, ?_, hh⟩
      · unfold pX9_link
        simp only [if_true, if_false, I_add, I_sub, I_mul, I_neg, I_ofNat, Option.bind_some, kIn, I_l0, I_l1, I_l2, I_l3, I_l4, I_l5, I_l6, I_l8, I_l9, I_l10, I_l11, I_l32, I_l40, I_l43, I_l44, I_l45, I_l48, I_l49, I_l57, I_l58, I_l60, I_l61, I_l62, I_l79, I_l80, I_l100, I_l120, I_l180, I_l200, I_l240, I_l300, I_l360, I_l361, I_l362, I_l363, I_l364, I_l365, I_l485, I_l605, I_l1999, I_l2000]
        rw [f1_hasT (by omega), f1_hasT (by omega), e1, u5]
        simp (disch := omega) only [if_true, if_false, I_add, I_sub, I_mul, I_neg, I_ofNat, Option.bind_some, kIn, I_l0, I_l1, I_l2, I_l3, I_l4, I_l5, I_l6, I_l8, I_l9, I_l10, I_l11, I_l32, I_l40, I_l43, I_l44, I_l45, I_l48, I_l49, I_l57, I_l58, I_l60, I_l61, I_l62, I_l79, I_l80, I_l100, I_l120, I_l180, I_l200, I_l240, I_l300, I_l360, I_l361, I_l362, I_l363, I_l364, I_l365, I_l485, I_l605, I_l1999, I_l2000, I_eq, if_neg]
      · unfold pX10_link
        rw [f10_noGroup (by omega) rm.1, if_pos q, f10_groups, rm.1, e2]
        simp (disch := omega) only [if_true, if_false, I_add, I_sub, I_mul, I_neg, I_ofNat, Option.bind_some, kIn, I_l0, I_l1, I_l2, I_l3, I_l4, I_l5, I_l6, I_l8, I_l9, I_l10, I_l11, I_l32, I_l40, I_l43, I_l44, I_l45, I_l48, I_l49, I_l57, I_l58, I_l60, I_l61, I_l62, I_l79, I_l80, I_l100, I_l120, I_l180, I_l200, I_l240, I_l300, I_l360, I_l361, I_l362, I_l363, I_l364, I_l365, I_l485, I_l605, I_l1999, I_l2000, I_eq, if_pos, if_neg]
        rw [u3]
        simp only [if_true, if_false, I_add, I_sub, I_mul, I_neg, I_ofNat, Option.bind_some, kIn, I_l0, I_l1, I_l2, I_l3, I_l4, I_l5, I_l6, I_l8, I_l9, I_l10, I_l11, I_l32, I_l40, I_l43, I_l44, I_l45, I_l48, I_l49, I_l57, I_l58, I_l60, I_l61, I_l62, I_l79, I_l80, I_l100, I_l120, I_l180, I_l200, I_l240, I_l300, I_l360, I_l361, I_l362, I_l363, I_l364, I_l365, I_l485, I_l605, I_l1999, I_l2000]
        rw [f10_groups, u1.1]
        rfl
      · exact ⟨c0, l0, o0, n0, c1, l1, o1, n1, L2, R2, _, rfl, k0, k1, (okM_mrg kM ⟨k0.1.2, k1.1.2⟩ (by omega)).val u4, r0.lo (by omega) k0.1.2 u2, r1.lo (by omega) k1.1.2 u2, u1.val u4⟩
    · refine ⟨I (-4), cz L, cz R, I g, k, 0, s0, s1, s2, s3, s4, V, W, ?_, ?_, hS, Or.inl ⟨rfl, hH⟩⟩
      · unfold pX9_link
        simp only [if_true, if_false, I_add, I_sub, I_mul, I_neg, I_ofNat, Option.bind_some, kIn, I_l0, I_l1, I_l2, I_l3, I_l4, I_l5, I_l6, I_l8, I_l9, I_l10, I_l11, I_l32, I_l40, I_l43, I_l44, I_l45, I_l48, I_l49, I_l57, I_l58, I_l60, I_l61, I_l62, I_l79, I_l80, I_l100, I_l120, I_l180, I_l200, I_l240, I_l300, I_l360, I_l361, I_l362, I_l363, I_l364, I_l365, I_l485, I_l605, I_l1999, I_l2000]
        rw [f1_hasT (by omega), f1_hasF (by omega)]
        simp (disch := omega) only [if_true, if_false, I_add, I_sub, I_mul, I_neg, I_ofNat, Option.bind_some, kIn, I_l0, I_l1, I_l2, I_l3, I_l4, I_l5, I_l6, I_l8, I_l9, I_l10, I_l11, I_l32, I_l40, I_l43, I_l44, I_l45, I_l48, I_l49, I_l57, I_l58, I_l60, I_l61, I_l62, I_l79, I_l80, I_l100, I_l120, I_l180, I_l200, I_l240, I_l300, I_l360, I_l361, I_l362, I_l363, I_l364, I_l365, I_l485, I_l605, I_l1999, I_l2000, I_eq, if_neg, if_pos]
      · unfold pX10_link
        rw [f10_noGroup (by omega) rm.1, if_pos q, f10_groups, rm.1]
        simp (disch := omega) only [if_true, if_false, I_add, I_sub, I_mul, I_neg, I_ofNat, Option.bind_some, kIn, I_l0, I_l1, I_l2, I_l3, I_l4, I_l5, I_l6, I_l8, I_l9, I_l10, I_l11, I_l32, I_l40, I_l43, I_l44, I_l45, I_l48, I_l49, I_l57, I_l58, I_l60, I_l61, I_l62, I_l79, I_l80, I_l100, I_l120, I_l180, I_l200, I_l240, I_l300, I_l360, I_l361, I_l362, I_l363, I_l364, I_l365, I_l485, I_l605, I_l1999, I_l2000, I_eq, if_pos]
  · refine ⟨I (-1), cz L, cz R, I g, k, 0, s0, s1, s2, s3, s4, V, W, ?_, ?_, hS, Or.inl ⟨rfl, hH⟩⟩
    · unfold pX9_link
      simp only [if_true, if_false, I_add, I_sub, I_mul, I_neg, I_ofNat, Option.bind_some, kIn, I_l0, I_l1, I_l2, I_l3, I_l4, I_l5, I_l6, I_l8, I_l9, I_l10, I_l11, I_l32, I_l40, I_l43, I_l44, I_l45, I_l48, I_l49, I_l57, I_l58, I_l60, I_l61, I_l62, I_l79, I_l80, I_l100, I_l120, I_l180, I_l200, I_l240, I_l300, I_l360, I_l361, I_l362, I_l363, I_l364, I_l365, I_l485, I_l605, I_l1999, I_l2000]
      rw [f1_hasF (by omega)]
      simp (disch := omega) only [if_true, if_false, I_add, I_sub, I_mul, I_neg, I_ofNat, Option.bind_some, kIn, I_l0, I_l1, I_l2, I_l3, I_l4, I_l5, I_l6, I_l8, I_l9, I_l10, I_l11, I_l32, I_l40, I_l43, I_l44, I_l45, I_l48, I_l49, I_l57, I_l58, I_l60, I_l61, I_l62, I_l79, I_l80, I_l100, I_l120, I_l180, I_l200, I_l240, I_l300, I_l360, I_l361, I_l362, I_l363, I_l364, I_l365, I_l485, I_l605, I_l1999, I_l2000, I_eq, if_pos]
    · unfold pX10_link
      rw [f10_noGroup (by omega) rm.1, if_neg q]
      simp (disch := omega) only [if_true, if_false, I_add, I_sub, I_mul, I_neg, I_ofNat, Option.bind_some, kIn, I_l0, I_l1, I_l2, I_l3, I_l4, I_l5, I_l6, I_l8, I_l9, I_l10, I_l11, I_l32, I_l40, I_l43, I_l44, I_l45, I_l48, I_l49, I_l57, I_l58, I_l60, I_l61, I_l62, I_l79, I_l80, I_l100, I_l120, I_l180, I_l200, I_l240, I_l300, I_l360, I_l361, I_l362, I_l363, I_l364, I_l365, I_l485, I_l605, I_l1999, I_l2000, I_eq, if_neg]
end ACT
