-- arranged: the class's layout whole
section ARR
variable {c0 l0 o0 c1 l1 o1 L R : Int → Int} {n0 n1 g w0 w1 h ph : Int}
theorem f3_arrange {hc nc pn ls : Int → Int} {c9 : Int} (hB0 : okB n0 c0 l0 o0) (hB1 : okB n1 c1 l1 o1) (hM : okM g L R n0 n1) (hw0 : 1 ≤ w0 ∧ w0 ≤ 200) (hw1 : 1 ≤ w1 ∧ w1 ≤ 200) (hh : 0 ≤ h ∧ h ≤ 5) (hph : 0 ≤ ph ∧ ph ≤ 200) : ∃ hc2 nc2 pn2 ls2 : Int → Int, (∀ j, 0 ≤ j → j < g → hc2 j = hgt c0 l0 c1 l1 L R w0 w1 h j ∧ nc2 j = nts o0 o1 L R j ∧ pn2 j = pgP (hgt c0 l0 c1 l1 L R w0 w1 h) (nts o0 o1 L R) ph j ∧ ls2 j = pgL (hgt c0 l0 c1 l1 L R w0 w1 h) (nts o0 o1 L R) ph j) ∧ pX3_arrange (I w0) (I w1) (I ph) (I h) (cz hc) (cz nc) (cz pn) (cz ls) (I c9) (cz c0) (cz l0) (cz o0) (I n0) (cz c1) (cz l1) (cz o1) (I n1) (cz L) (cz R) (I g) = some (cz hc2, cz nc2, cz pn2, cz ls2, I g, I (pgC (hgt c0 l0 c1 l1 L R w0 w1 h) (nts o0 o1 L R) ph g), I (Sm (emp c0 l0 c1 l1 L R w0 w1 h) g)) := by
  have hg := hM.1
  obtain ⟨hc2, nc2, r1, r2⟩ := f3_measure_L hB0 hB1 hM hw0 hw1 hh 4000 hc nc 0 0 (by omega) (by omega) (by omega) (fun j a b => by omega) rfl
  obtain ⟨pn2, ls2, r3, r4⟩ := f3_fillPages (hc := hc2) (nc := nc2) (ht := hgt c0 l0 c1 l1 L R w0 w1 h) (nt := nts o0 o1 L R) (pn := pn) (ls := ls) (ph := ph) (g := g) (c9 := c9) hg (by omega) (hgt_bd hB0 hB1 hM hw0 hw1 hh) (nts_bd hB0 hB1 hM) (fun i a b => (r1 i a b).1) (fun i a b => (r1 i a b).2)
  refine ⟨hc2, nc2, pn2, ls2, fun j a b => ⟨(r1 j a b).1, (r1 j a b).2, (r3 j a b).1, (r3 j a b).2⟩, ?_⟩
  unfold pX3_arrange pX3_measureGroups
  have e0 : ¬ (120 : Int32) < I g := by
    intro z
    have z2 : I 120 < I g := z
    rw [I_lt (by omega)] at z2
    omega
  rw [Sm_0, Sm_0] at r2
  rw [if_neg e0]
  simp only [if_true, if_false, I_add, I_sub, I_mul, I_neg, I_ofNat, Option.bind_some, kIn, I_l0, I_l1, I_l2, I_l3, I_l4, I_l5, I_l6, I_l8, I_l9, I_l10, I_l11, I_l32, I_l40, I_l43, I_l44, I_l45, I_l48, I_l49, I_l57, I_l58, I_l60, I_l61, I_l62, I_l79, I_l80, I_l100, I_l120, I_l180, I_l200, I_l240, I_l300, I_l360, I_l361, I_l362, I_l363, I_l364, I_l365, I_l485, I_l605, I_l1999, I_l2000]
  rw [r2]
  simp only [if_true, if_false, I_add, I_sub, I_mul, I_neg, I_ofNat, Option.bind_some, kIn, I_l0, I_l1, I_l2, I_l3, I_l4, I_l5, I_l6, I_l8, I_l9, I_l10, I_l11, I_l32, I_l40, I_l43, I_l44, I_l45, I_l48, I_l49, I_l57, I_l58, I_l60, I_l61, I_l62, I_l79, I_l80, I_l100, I_l120, I_l180, I_l200, I_l240, I_l300, I_l360, I_l361, I_l362, I_l363, I_l364, I_l365, I_l485, I_l605, I_l1999, I_l2000]
  rw [r4]
  rfl
end ARR
-- the reference's: heights, notes of a group
section RG
variable {W w c0 l0 o0 c1 l1 o1 L R : Int → Int} {n0 n1 g h ph : Int}
theorem f10_neededN {c l o : Int → Int} {b n k : Int} (hb : 0 ≤ b ∧ b ≤ 1) (hk : 0 ≤ k ∧ k < g) (hg : 0 ≤ g ∧ g ≤ 120) (hB : okB n c l o) (hS : ∀ i, 0 ≤ i → i < g → 0 ≤ sel b L R i) (hSn : Sm (sel b L R) g = n) (rb : rB W b n c l o) (rm : rM W g L R) (hw : -100000 ≤ w b ∧ w b ≤ 100000) (hw2 : 1 ≤ wdt w b ∧ wdt w b ≤ 200) (hh : 0 ≤ h ∧ h ≤ 5) : pX10_needed (cz W) (cz w) (I h) (I k) (I b) = some (I (ned (vln c l (wdt w b) h) (sel b L R) k)) := by
  have s0 := sm_in hS hSn (i := k) (by omega)
  have s1 := sm_in hS hSn (i := k + 1) (by omega)
  have s2 := hS k hk.1 hk.2
  have e : Sm (sel b L R) (k + 1) = Sm (sel b L R) k + sel b L R k := Sm_s hk.1
  exact f10_needed ⟨hb, hB.1, hg, hk⟩ (by omega) hh rb rm (okB_c hB) (okB_l hB) hw hw2
theorem f10_needed0 {k : Int} (hk : 0 ≤ k ∧ k < g) (hB0 : okB n0 c0 l0 o0) (hM : okM g L R n0 n1) (r0 : rB W 0 n0 c0 l0 o0) (rm : rM W g L R) (hw : -100000 ≤ w 0 ∧ w 0 ≤ 100000) (hw2 : 1 ≤ wdt w 0 ∧ wdt w 0 ≤ 200) (hh : 0 ≤ h ∧ h ≤ 5) : pX10_needed (cz W) (cz w) (I h) (I k) (I 0) = some (I (ned (vln c0 l0 (wdt w 0) h) L k)) :=
  f10_neededN (b := 0) (by omega) hk hM.1 hB0 (fun i a b => (hM.2.1 i a b).1.1) hM.2.2.1 r0 rm hw hw2 hh
theorem f10_needed1 {k : Int} (hk : 0 ≤ k ∧ k < g) (hB1 : okB n1 c1 l1 o1) (hM : okM g L R n0 n1) (r1 : rB W 1 n1 c1 l1 o1) (rm : rM W g L R) (hw : -100000 ≤ w 1 ∧ w 1 ≤ 100000) (hw2 : 1 ≤ wdt w 1 ∧ wdt w 1 ≤ 200) (hh : 0 ≤ h ∧ h ≤ 5) : pX10_needed (cz W) (cz w) (I h) (I k) (I 1) = some (I (ned (vln c1 l1 (wdt w 1) h) R k)) :=
  f10_neededN (b := 1) (by omega) hk hM.1 hB1 (fun i a b => (hM.2.1 i a b).2.1.1) hM.2.2.2 r1 rm hw hw2 hh
theorem f10_heightOf {k : Int} (hk : 0 ≤ k ∧ k < g) (hB0 : okB n0 c0 l0 o0) (hB1 : okB n1 c1 l1 o1) (hM : okM g L R n0 n1) (r0 : rB W 0 n0 c0 l0 o0) (r1 : rB W 1 n1 c1 l1 o1) (rm : rM W g L R) (hw : (-100000 ≤ w 0 ∧ w 0 ≤ 100000) ∧ -100000 ≤ w 1 ∧ w 1 ≤ 100000) (hw2 : (1 ≤ wdt w 0 ∧ wdt w 0 ≤ 200) ∧ 1 ≤ wdt w 1 ∧ wdt w 1 ≤ 200) (hh : 0 ≤ h ∧ h ≤ 5) : pX10_heightOf (cz W) (cz w) (I h) (I k) = some (I (hgt c0 l0 c1 l1 L R (wdt w 0) (wdt w 1) h k)) := by
  unfold pX10_heightOf hgt mx
  have v0 := ned_v hB0 (S := L) (fun i a b => (hM.2.1 i a b).1.1) hM.2.2.1 hw2.1 hh k hk.1 hk.2
  have v1 := ned_v hB1 (S := R) (fun i a b => (hM.2.1 i a b).2.1.1) hM.2.2.2 hw2.2 hh k hk.1 hk.2
  simp only [if_true, if_false, I_add, I_sub, I_mul, I_neg, I_ofNat, Option.bind_some, kIn, I_l0, I_l1, I_l2, I_l3, I_l4, I_l5, I_l6, I_l8, I_l9, I_l10, I_l11, I_l32, I_l40, I_l43, I_l44, I_l45, I_l48, I_l49, I_l57, I_l58, I_l60, I_l61, I_l62, I_l79, I_l80, I_l100, I_l120, I_l180, I_l200, I_l240, I_l300, I_l360, I_l361, I_l362, I_l363, I_l364, I_l365, I_l485, I_l605, I_l1999, I_l2000]
  rw [f10_needed0 hk hB0 hM r0 rm hw.1 hw2.1 hh, f10_needed1 hk hB1 hM r1 rm hw.2 hw2.2 hh]
  simp (disch := omega) only [if_true, if_false, I_add, I_sub, I_mul, I_neg, I_ofNat, Option.bind_some, kIn, I_l0, I_l1, I_l2, I_l3, I_l4, I_l5, I_l6, I_l8, I_l9, I_l10, I_l11, I_l32, I_l40, I_l43, I_l44, I_l45, I_l48, I_l49, I_l57, I_l58, I_l60, I_l61, I_l62, I_l79, I_l80, I_l100, I_l120, I_l180, I_l200, I_l240, I_l300, I_l360, I_l361, I_l362, I_l363, I_l364, I_l365, I_l485, I_l605, I_l1999, I_l2000, I_le]
  by_cases q : ned (vln c0 l0 (wdt w 0) h) L k < ned (vln c1 l1 (wdt w 1) h) R k
  · rw [if_pos q, if_pos (by omega)]
  · rw [if_neg q]
    by_cases q2 : ned (vln c0 l0 (wdt w 0) h) L k ≤ ned (vln c1 l1 (wdt w 1) h) R k
    · rw [if_pos q2, show ned (vln c0 l0 (wdt w 0) h) L k = ned (vln c1 l1 (wdt w 1) h) R k by omega]
    · rw [if_neg q2]
theorem f10_notesOf_L {c l o : Int → Int} {K : Int32 → Int32 → Int32 → Option Int32} {b n a : Int} (hb : 0 ≤ b ∧ b ≤ 1) (ha : 0 ≤ a ∧ a < g) (hg : 0 ≤ g ∧ g ≤ 120) (hn : 0 ≤ n ∧ n ≤ 60) (hse : 0 ≤ Sm (sel b L R) a ∧ Sm (sel b L R) a ≤ Sm (sel b L R) (a + 1) ∧ Sm (sel b L R) (a + 1) ≤ n) (rb : rB W b n c l o) (rm : rM W g L R) : ∀ (m : Nat) (s k : Int), Sm (sel b L R) a ≤ k → k ≤ Sm (sel b L R) (a + 1) → Sm (sel b L R) (a + 1) - k < m → pX10_notesOf_L21 (cz W) K m (I a) (I s) (I b) (I (Sm (sel b L R) a)) (I k) = K (I a) (I (s + (Sm o (Sm (sel b L R) (a + 1)) - Sm o k))) (I (b + 1)) := by
  intro m
  induction m with
  | zero => intro s k h0 h1 h2; omega
  | succ m ih =>
    intro s k h0 h1 h2
    show pX10_notesOf_bL21 _ _ _ _ _ _ _ _ = _
    unfold pX10_notesOf_bL21
    have e0 : Sm (sel b L R) (a + 1) = Sm (sel b L R) a + sel b L R a := Sm_s ha.1
    rw [f10_has (by omega) rm]
    by_cases q : k = Sm (sel b L R) (a + 1)
    · simp (disch := omega) only [if_true, if_false, I_add, I_sub, I_mul, I_neg, I_ofNat, Option.bind_some, kIn, I_l0, I_l1, I_l2, I_l3, I_l4, I_l5, I_l6, I_l8, I_l9, I_l10, I_l11, I_l32, I_l40, I_l43, I_l44, I_l45, I_l48, I_l49, I_l57, I_l58, I_l60, I_l61, I_l62, I_l79, I_l80, I_l100, I_l120, I_l180, I_l200, I_l240, I_l300, I_l360, I_l361, I_l362, I_l363, I_l364, I_l365, I_l485, I_l605, I_l1999, I_l2000, I_le, if_pos]
      rw [q, show s + (Sm o (Sm (sel b L R) (a + 1)) - Sm o (Sm (sel b L R) (a + 1))) = s by omega]
    · have e1 : Sm o (k + 1) = Sm o k + o k := Sm_s (by omega)
      have e2 := (rb.2.2 k (by omega) (by omega)).2.1
      simp (disch := omega) only [if_true, if_false, I_add, I_sub, I_mul, I_neg, I_ofNat, Option.bind_some, kIn, I_l0, I_l1, I_l2, I_l3, I_l4, I_l5, I_l6, I_l8, I_l9, I_l10, I_l11, I_l32, I_l40, I_l43, I_l44, I_l45, I_l48, I_l49, I_l57, I_l58, I_l60, I_l61, I_l62, I_l79, I_l80, I_l100, I_l120, I_l180, I_l200, I_l240, I_l300, I_l360, I_l361, I_l362, I_l363, I_l364, I_l365, I_l485, I_l605, I_l1999, I_l2000, I_le, I_toInt, cz_at, if_neg, if_pos]
      rw [e2, ih _ _ (by omega) (by omega) (by omega), show s + o k + (Sm o (Sm (sel b L R) (a + 1)) - Sm o (k + 1)) = s + (Sm o (Sm (sel b L R) (a + 1)) - Sm o k) by omega]
theorem f10_notesOf {k : Int} (hk : 0 ≤ k ∧ k < g) (hB0 : okB n0 c0 l0 o0) (hB1 : okB n1 c1 l1 o1) (hM : okM g L R n0 n1) (r0 : rB W 0 n0 c0 l0 o0) (r1 : rB W 1 n1 c1 l1 o1) (rm : rM W g L R) : pX10_notesOf (cz W) (I k) = some (I (nts o0 o1 L R k)) := by
  have hg := hM.1
  have b0 := hB0.1
  have b1 := hB1.1
  have hL : ∀ i, 0 ≤ i → i < g → 0 ≤ L i := fun i a b => (hM.2.1 i a b).1.1
  have hR : ∀ i, 0 ≤ i → i < g → 0 ≤ R i := fun i a b => (hM.2.1 i a b).2.1.1
  have s0 := sm_in hL hM.2.2.1 (i := k) (by omega)
  have s1 := sm_in hR hM.2.2.2 (i := k) (by omega)
  have s2 := sm_in hL hM.2.2.1 (i := k + 1) (by omega)
  have s3 := sm_in hR hM.2.2.2 (i := k + 1) (by omega)
  have e0 : Sm L (k + 1) = Sm L k + L k := Sm_s hk.1
  have e1 : Sm R (k + 1) = Sm R k + R k := Sm_s hk.1
  have m0 := hL k hk.1 hk.2
  have m1 := hR k hk.1 hk.2
  unfold pX10_notesOf
  show pX10_notesOf_bL4 (cz W) (pX10_notesOf_L4 (cz W) 3999) _ _ _ = _
  unfold pX10_notesOf_bL4
  simp (disch := omega) only [if_true, if_false, I_add, I_sub, I_mul, I_neg, I_ofNat, Option.bind_some, kIn, I_l0, I_l1, I_l2, I_l3, I_l4, I_l5, I_l6, I_l8, I_l9, I_l10, I_l11, I_l32, I_l40, I_l43, I_l44, I_l45, I_l48, I_l49, I_l57, I_l58, I_l60, I_l61, I_l62, I_l79, I_l80, I_l100, I_l120, I_l180, I_l200, I_l240, I_l300, I_l360, I_l361, I_l362, I_l363, I_l364, I_l365, I_l485, I_l605, I_l1999, I_l2000, I_le, if_neg]
  rw [f10_firstIn (b := 0) (by omega) rm]
  simp only [if_true, if_false, I_add, I_sub, I_mul, I_neg, I_ofNat, Option.bind_some, kIn, I_l0, I_l1, I_l2, I_l3, I_l4, I_l5, I_l6, I_l8, I_l9, I_l10, I_l11, I_l32, I_l40, I_l43, I_l44, I_l45, I_l48, I_l49, I_l57, I_l58, I_l60, I_l61, I_l62, I_l79, I_l80, I_l100, I_l120, I_l180, I_l200, I_l240, I_l300, I_l360, I_l361, I_l362, I_l363, I_l364, I_l365, I_l485, I_l605, I_l1999, I_l2000]
  rw [f10_notesOf_L (b := 0) (n := n0) (c := c0) (l := l0) (o := o0) (by omega) hk hg b0 ⟨s0.1, by rw [sel_0 rfl]; omega, by rw [sel_0 rfl]; omega⟩ r0 rm 4000 0 _ (Int.le_refl _) (by rw [sel_0 rfl]; omega) (by rw [sel_0 rfl]; omega)]
  show pX10_notesOf_bL4 (cz W) (pX10_notesOf_L4 (cz W) 3998) _ _ _ = _
  unfold pX10_notesOf_bL4
  simp (disch := omega) only [if_true, if_false, I_add, I_sub, I_mul, I_neg, I_ofNat, Option.bind_some, kIn, I_l0, I_l1, I_l2, I_l3, I_l4, I_l5, I_l6, I_l8, I_l9, I_l10, I_l11, I_l32, I_l40, I_l43, I_l44, I_l45, I_l48, I_l49, I_l57, I_l58, I_l60, I_l61, I_l62, I_l79, I_l80, I_l100, I_l120, I_l180, I_l200, I_l240, I_l300, I_l360, I_l361, I_l362, I_l363, I_l364, I_l365, I_l485, I_l605, I_l1999, I_l2000, I_le, if_neg]
  rw [show (0 : Int) + 1 = 1 from rfl, f10_firstIn (b := 1) (by omega) rm]
  simp only [if_true, if_false, I_add, I_sub, I_mul, I_neg, I_ofNat, Option.bind_some, kIn, I_l0, I_l1, I_l2, I_l3, I_l4, I_l5, I_l6, I_l8, I_l9, I_l10, I_l11, I_l32, I_l40, I_l43, I_l44, I_l45, I_l48, I_l49, I_l57, I_l58, I_l60, I_l61, I_l62, I_l79, I_l80, I_l100, I_l120, I_l180, I_l200, I_l240, I_l300, I_l360, I_l361, I_l362, I_l363, I_l364, I_l365, I_l485, I_l605, I_l1999, I_l2000]
  rw [f10_notesOf_L (b := 1) (n := n1) (c := c1) (l := l1) (o := o1) (by omega) hk hg b1 ⟨s1.1, by rw [sel_1 (by omega)]; omega, by rw [sel_1 (by omega)]; omega⟩ r1 rm 4000 _ _ (Int.le_refl _) (by rw [sel_1 (by omega)]; omega) (by rw [sel_1 (by omega)]; omega)]
  show pX10_notesOf_bL4 (cz W) (pX10_notesOf_L4 (cz W) 3997) _ _ _ = _
  unfold pX10_notesOf_bL4
  simp (disch := omega) only [if_true, if_false, I_add, I_sub, I_mul, I_neg, I_ofNat, Option.bind_some, kIn, I_l0, I_l1, I_l2, I_l3, I_l4, I_l5, I_l6, I_l8, I_l9, I_l10, I_l11, I_l32, I_l40, I_l43, I_l44, I_l45, I_l48, I_l49, I_l57, I_l58, I_l60, I_l61, I_l62, I_l79, I_l80, I_l100, I_l120, I_l180, I_l200, I_l240, I_l300, I_l360, I_l361, I_l362, I_l363, I_l364, I_l365, I_l485, I_l605, I_l1999, I_l2000, I_le, if_pos]
  rw [sel_0 rfl, sel_1 (by omega)]
  unfold nts ned
  exact sI (by omega)
-- the reference lays pages
theorem f10_layPages_L (hB0 : okB n0 c0 l0 o0) (hB1 : okB n1 c1 l1 o1) (hM : okM g L R n0 n1) (r0 : rB W 0 n0 c0 l0 o0) (r1 : rB W 1 n1 c1 l1 o1) (rm : rM W g L R) (hw : (-100000 ≤ w 0 ∧ w 0 ≤ 100000) ∧ -100000 ≤ w 1 ∧ w 1 ≤ 100000) (hw2 : (1 ≤ wdt w 0 ∧ wdt w 0 ≤ 200) ∧ 1 ≤ wdt w 1 ∧ wdt w 1 ≤ 200) (hh : 0 ≤ h ∧ h ≤ 5) (hph : 0 ≤ ph ∧ ph ≤ 200) (ht nt : Int → Int) (eht : ht = hgt c0 l0 c1 l1 L R (wdt w 0) (wdt w 1) h) (ent : nt = nts o0 o1 L R) : ∀ (m : Nat) (a19 a20 a21 a22 : Int → Int) (k : Int), 0 ≤ k → k ≤ g → g - k < m → (∀ j, 0 ≤ j → j < k → a19 j = pgP ht nt ph j ∧ a20 j = pgL ht nt ph j) → (∀ p, 0 ≤ p → p < pgC ht nt ph k → a21 p = psm (pgP ht nt ph) ht p k ∧ a22 p = psm (pgP ht nt ph) nt p k) → ∃ b19 b20 b21 b22 : Int → Int, (∀ j, 0 ≤ j → j < g → b19 j = pgP ht nt ph j ∧ b20 j = pgL ht nt ph j) ∧ (∀ p, 0 ≤ p → p < pgC ht nt ph g → b21 p = psm (pgP ht nt ph) ht p g ∧ b22 p = psm (pgP ht nt ph) nt p g) ∧ pX10_layPages_L7 (cz W) (cz w) (I ph) (I h) m (I (pgC ht nt ph k)) (cz a19) (cz a20) (cz a21) (cz a22) (I k) = some (I (pgC ht nt ph g), cz b19, cz b20, cz b21, cz b22) := by
  intro m
  have hg := hM.1
  have bh : ∀ i, 0 ≤ i → i < g → 0 ≤ ht i ∧ ht i ≤ 1000000 := by rw [eht]; exact hgt_bd hB0 hB1 hM hw2.1 hw2.2 hh
  have bn : ∀ i, 0 ≤ i → i < g → 0 ≤ nt i ∧ nt i ≤ 1000000 := by rw [ent]; exact nts_bd hB0 hB1 hM
  induction m with
  | zero => intro a19 a20 a21 a22 k h0 h1 h2; omega
  | succ m ih =>
    intro a19 a20 a21 a22 k h0 h1 h2 hj hp
    by_cases q : k = g
    · subst q
      refine ⟨a19, a20, a21, a22, hj, hp, ?_⟩
      show pX10_layPages_bL7 _ _ _ _ _ _ _ _ _ _ _ = _
      unfold pX10_layPages_bL7
      rw [f10_groups, rm.1]
      simp (disch := omega) only [if_true, if_false, I_add, I_sub, I_mul, I_neg, I_ofNat, Option.bind_some, kIn, I_l0, I_l1, I_l2, I_l3, I_l4, I_l5, I_l6, I_l8, I_l9, I_l10, I_l11, I_l32, I_l40, I_l43, I_l44, I_l45, I_l48, I_l49, I_l57, I_l58, I_l60, I_l61, I_l62, I_l79, I_l80, I_l100, I_l120, I_l180, I_l200, I_l240, I_l300, I_l360, I_l361, I_l362, I_l363, I_l364, I_l365, I_l485, I_l605, I_l1999, I_l2000, I_le, if_pos]
    · have e1 : pX10_heightOf (cz W) (cz w) (I h) (I k) = some (I (ht k)) := by rw [eht]; exact f10_heightOf (by omega) hB0 hB1 hM r0 r1 rm hw hw2 hh
      have e2 : pX10_notesOf (cz W) (I k) = some (I (nt k)) := by rw [ent]; exact f10_notesOf (by omega) hB0 hB1 hM r0 r1 rm
      have b1 := bh k h0 (by omega)
      have b2 := bn k h0 (by omega)
      obtain ⟨d1, d2, d3⟩ := pg_bd (ph := ph) bh bn k h0 h1
      have hlast := pg_last (ph := ph) bh bn k h0 h1
      have hlt := pgP_lt (ph := ph) bh bn k h1
      -- behind the choice of a page: x21, x22 the sums with page p open
      have step : ∀ (x21 x22 : Int → Int) (p : Int), 0 ≤ p → p = pgC ht nt ph (k + 1) - 1 → x21 p = pgU ht nt ph (k + 1) - ht k → x22 p = pgS ht nt ph (k + 1) - nt k → (∀ i, 0 ≤ i → i ≤ p → x21 i = psm (pgP ht nt ph) ht i k ∧ x22 i = psm (pgP ht nt ph) nt i k) → ∃ b19 b20 b21 b22 : Int → Int, (∀ j, 0 ≤ j → j < g → b19 j = pgP ht nt ph j ∧ b20 j = pgL ht nt ph j) ∧ (∀ p, 0 ≤ p → p < pgC ht nt ph g → b21 p = psm (pgP ht nt ph) ht p g ∧ b22 p = psm (pgP ht nt ph) nt p g) ∧ pX10_layPages_j103 (cz W) (cz w) (I ph) (I h) (pX10_layPages_L7 (cz W) (cz w) (I ph) (I h) m) (I (pgC ht nt ph (k + 1))) (cz a19) (cz a20) (cz x21) (cz x22) (I k) (I (ht k)) (I (nt k)) (I p) = some (I (pgC ht nt ph g), cz b19, cz b20, cz b21, cz b22) := by
        intro x21 x22 p p0 ep eu es hx
        have d4 := (pg_bd (ph := ph) bh bn (k + 1) (by omega) (by omega)).1
        have eP : pgP ht nt ph k = p := by unfold pgP; omega
        obtain ⟨b19, b20, b21, b22, t1, t2, t3⟩ := ih (up a19 k p) (up a20 k (x21 p)) (up x21 p (x21 p + ht k)) (up x22 p (x22 p + nt k)) (k + 1) (by omega) (by omega) (by omega) (fun j j0 j1 => by
          by_cases z : j = k
          · rw [z, up_at rfl, up_at rfl]
            refine ⟨eP.symm, ?_⟩
            unfold pgL
            omega
          · rw [up_ne z, up_ne z]
            exact hj j j0 (by omega)) (fun i i0 i1 => by
          rw [psm_s h0, psm_s h0]
          have hxi := hx i i0 (by omega)
          by_cases z : i = p
          · rw [up_at z, up_at z, if_pos (by omega), if_pos (by omega), z]
            rw [z] at hxi
            omega
          · rw [up_ne z, up_ne z, if_neg (by omega), if_neg (by omega)]
            omega)
        refine ⟨b19, b20, b21, b22, t1, t2, ?_⟩
        unfold pX10_layPages_j103
        simp (disch := omega) only [if_true, if_false, I_add, I_sub, I_mul, I_neg, I_ofNat, Option.bind_some, kIn, I_l0, I_l1, I_l2, I_l3, I_l4, I_l5, I_l6, I_l8, I_l9, I_l10, I_l11, I_l32, I_l40, I_l43, I_l44, I_l45, I_l48, I_l49, I_l57, I_l58, I_l60, I_l61, I_l62, I_l79, I_l80, I_l100, I_l120, I_l180, I_l200, I_l240, I_l300, I_l360, I_l361, I_l362, I_l363, I_l364, I_l365, I_l485, I_l605, I_l1999, I_l2000, I_le, I_lt, I_eq, I_toInt, cz_at, cz_up, if_pos, if_neg]
        exact t3
      have body : ∃ (x21 x22 : Int → Int) (p : Int), 0 ≤ p ∧ p = pgC ht nt ph (k + 1) - 1 ∧ x21 p = pgU ht nt ph (k + 1) - ht k ∧ x22 p = pgS ht nt ph (k + 1) - nt k ∧ (∀ i, 0 ≤ i → i ≤ p → x21 i = psm (pgP ht nt ph) ht i k ∧ x22 i = psm (pgP ht nt ph) nt i k) ∧ pX10_layPages_bL7 (cz W) (cz w) (I ph) (I h) (pX10_layPages_L7 (cz W) (cz w) (I ph) (I h) m) (I (pgC ht nt ph k)) (cz a19) (cz a20) (cz a21) (cz a22) (I k) = pX10_layPages_j103 (cz W) (cz w) (I ph) (I h) (pX10_layPages_L7 (cz W) (cz w) (I ph) (I h) m) (I (pgC ht nt ph (k + 1))) (cz a19) (cz a20) (cz x21) (cz x22) (I k) (I (ht k)) (I (nt k)) (I p) := by
        unfold pX10_layPages_bL7
        rw [f10_groups, rm.1, e1, e2]
        have nw : ∀ i, 0 ≤ i → i ≤ pgC ht nt ph k → up a21 (pgC ht nt ph k) 0 i = psm (pgP ht nt ph) ht i k ∧ up a22 (pgC ht nt ph k) 0 i = psm (pgP ht nt ph) nt i k := by
          intro i i0 i1
          by_cases z : i = pgC ht nt ph k
          · rw [up_at z, up_at z, psm_0 h0 (fun j a b => by have := hlt j a b; omega), psm_0 h0 (fun j a b => by have := hlt j a b; omega)]
            exact ⟨rfl, rfl⟩
          · rw [up_ne z, up_ne z]
            exact hp i i0 (by omega)
        rcases pg_s (ht := ht) (nt := nt) (ph := ph) h0 with ⟨hy, y1, y2, y3⟩ | ⟨hne, y1, y2, y3⟩
        · refine ⟨up a21 (pgC ht nt ph k) 0, up a22 (pgC ht nt ph k) 0, pgC ht nt ph k, d1.1, by omega, by rw [up_at rfl]; omega, by rw [up_at rfl]; omega, nw, ?_⟩
          unfold pX10_layPages_j71
          rw [y1]
          by_cases z : pgC ht nt ph k = 0
          · simp (disch := omega) only [if_true, if_false, I_add, I_sub, I_mul, I_neg, I_ofNat, Option.bind_some, kIn, I_l0, I_l1, I_l2, I_l3, I_l4, I_l5, I_l6, I_l8, I_l9, I_l10, I_l11, I_l32, I_l40, I_l43, I_l44, I_l45, I_l48, I_l49, I_l57, I_l58, I_l60, I_l61, I_l62, I_l79, I_l80, I_l100, I_l120, I_l180, I_l200, I_l240, I_l300, I_l360, I_l361, I_l362, I_l363, I_l364, I_l365, I_l485, I_l605, I_l1999, I_l2000, I_le, I_eq, I_toInt, cz_up, if_neg, if_pos]
          · have hk1 : 0 < k := by
              by_cases z2 : k = 0
              · subst z2
                exact absurd (pg_0 ht nt ph).1 z
              · omega
            have hl2 := hlast hk1
            have hp2 := hp (pgC ht nt ph k - 1) (by omega) (by omega)
            have w1 := wl_bd (x := pgS ht nt ph k + nt k) (by omega)
            have hy2 : ph < pgU ht nt ph k + ht k + wl (pgS ht nt ph k + nt k) := by
              rcases hy with hy | hy
              · exact absurd hy z
              · exact hy
            simp (disch := omega) only [if_true, if_false, I_add, I_sub, I_mul, I_neg, I_ofNat, Option.bind_some, kIn, I_l0, I_l1, I_l2, I_l3, I_l4, I_l5, I_l6, I_l8, I_l9, I_l10, I_l11, I_l32, I_l40, I_l43, I_l44, I_l45, I_l48, I_l49, I_l57, I_l58, I_l60, I_l61, I_l62, I_l79, I_l80, I_l100, I_l120, I_l180, I_l200, I_l240, I_l300, I_l360, I_l361, I_l362, I_l363, I_l364, I_l365, I_l485, I_l605, I_l1999, I_l2000, I_le, I_eq, I_toInt, cz_at, cz_up, if_neg, if_pos]
            rw [hp2.1, hp2.2, hl2.1, hl2.2, f10_withLine (by omega)]
            simp (disch := omega) only [if_true, if_false, I_add, I_sub, I_mul, I_neg, I_ofNat, Option.bind_some, kIn, I_l0, I_l1, I_l2, I_l3, I_l4, I_l5, I_l6, I_l8, I_l9, I_l10, I_l11, I_l32, I_l40, I_l43, I_l44, I_l45, I_l48, I_l49, I_l57, I_l58, I_l60, I_l61, I_l62, I_l79, I_l80, I_l100, I_l120, I_l180, I_l200, I_l240, I_l300, I_l360, I_l361, I_l362, I_l363, I_l364, I_l365, I_l485, I_l605, I_l1999, I_l2000, I_le, I_eq, I_toInt, cz_up, if_neg, if_pos]
        · have z : ¬ pgC ht nt ph k = 0 := fun e => hne (Or.inl e)
          have hk1 : 0 < k := by
            by_cases z2 : k = 0
            · subst z2
              exact absurd (pg_0 ht nt ph).1 z
            · omega
          have hl2 := hlast hk1
          have hp2 := hp (pgC ht nt ph k - 1) (by omega) (by omega)
          have w1 := wl_bd (x := pgS ht nt ph k + nt k) (by omega)
          have hy2 : ¬ ph < pgU ht nt ph k + ht k + wl (pgS ht nt ph k + nt k) := fun e => hne (Or.inr e)
          refine ⟨a21, a22, pgC ht nt ph k - 1, by omega, by omega, by omega, by omega, fun i i0 i1 => hp i i0 (by omega), ?_⟩
          rw [y1]
          simp (disch := omega) only [if_true, if_false, I_add, I_sub, I_mul, I_neg, I_ofNat, Option.bind_some, kIn, I_l0, I_l1, I_l2, I_l3, I_l4, I_l5, I_l6, I_l8, I_l9, I_l10, I_l11, I_l32, I_l40, I_l43, I_l44, I_l45, I_l48, I_l49, I_l57, I_l58, I_l60, I_l61, I_l62, I_l79, I_l80, I_l100, I_l120, I_l180, I_l200, I_l240, I_l300, I_l360, I_l361, I_l362, I_l363, I_l364, I_l365, I_l485, I_l605, I_l1999, I_l2000, I_le, I_eq, I_toInt, cz_at, cz_up, if_neg, if_pos]
          rw [hp2.1, hp2.2, hl2.1, hl2.2, f10_withLine (by omega)]
          simp (disch := omega) only [if_true, if_false, I_add, I_sub, I_mul, I_neg, I_ofNat, Option.bind_some, kIn, I_l0, I_l1, I_l2, I_l3, I_l4, I_l5, I_l6, I_l8, I_l9, I_l10, I_l11, I_l32, I_l40, I_l43, I_l44, I_l45, I_l48, I_l49, I_l57, I_l58, I_l60, I_l61, I_l62, I_l79, I_l80, I_l100, I_l120, I_l180, I_l200, I_l240, I_l300, I_l360, I_l361, I_l362, I_l363, I_l364, I_l365, I_l485, I_l605, I_l1999, I_l2000, I_le, I_eq, I_toInt, cz_up, if_neg, if_pos]
      obtain ⟨x21, x22, p, a1, a2, a3, a4, a5, a6⟩ := body
      obtain ⟨b19, b20, b21, b22, t1, t2, t3⟩ := step x21 x22 p a1 a2 a3 a4 a5
      exact ⟨b19, b20, b21, b22, t1, t2, a6.trans t3⟩
theorem f10_layPages {a19 a20 a21 a22 : Int → Int} (hB0 : okB n0 c0 l0 o0) (hB1 : okB n1 c1 l1 o1) (hM : okM g L R n0 n1) (r0 : rB W 0 n0 c0 l0 o0) (r1 : rB W 1 n1 c1 l1 o1) (rm : rM W g L R) (hw : (-100000 ≤ w 0 ∧ w 0 ≤ 100000) ∧ -100000 ≤ w 1 ∧ w 1 ≤ 100000) (hw2 : (1 ≤ wdt w 0 ∧ wdt w 0 ≤ 200) ∧ 1 ≤ wdt w 1 ∧ wdt w 1 ≤ 200) (hh : 0 ≤ h ∧ h ≤ 5) (hph : 0 ≤ ph ∧ ph ≤ 200) (ht nt : Int → Int) (eht : ht = hgt c0 l0 c1 l1 L R (wdt w 0) (wdt w 1) h) (ent : nt = nts o0 o1 L R) : ∃ b19 b20 b21 b22 : Int → Int, (∀ j, 0 ≤ j → j < g → b19 j = pgP ht nt ph j ∧ b20 j = pgL ht nt ph j) ∧ (∀ p, 0 ≤ p → p < pgC ht nt ph g → b21 p = psm (pgP ht nt ph) ht p g ∧ b22 p = psm (pgP ht nt ph) nt p g) ∧ pX10_layPages (cz W) (cz w) (I ph) (I h) (cz a19) (cz a20) (cz a21) (cz a22) = some (I (pgC ht nt ph g), cz b19, cz b20, cz b21, cz b22) := by
  have hg := hM.1
  unfold pX10_layPages
  simp only [if_true, if_false, I_add, I_sub, I_mul, I_neg, I_ofNat, Option.bind_some, kIn, I_l0, I_l1, I_l2, I_l3, I_l4, I_l5, I_l6, I_l8, I_l9, I_l10, I_l11, I_l32, I_l40, I_l43, I_l44, I_l45, I_l48, I_l49, I_l57, I_l58, I_l60, I_l61, I_l62, I_l79, I_l80, I_l100, I_l120, I_l180, I_l200, I_l240, I_l300, I_l360, I_l361, I_l362, I_l363, I_l364, I_l365, I_l485, I_l605, I_l1999, I_l2000]
  exact f10_layPages_L hB0 hB1 hM r0 r1 rm hw hw2 hh hph ht nt eht ent 4000 a19 a20 a21 a22 0 (by omega) (by omega) (by omega) (fun j a b => by omega) (fun p a b => by have := (pg_0 ht nt ph).1; omega)
end RG
