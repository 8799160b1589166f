-- verses joined: both sides alike
theorem rB.valB {Y : Int → Int} {b n : Int} {c l o c2 l2 o2 : Int → Int} (r : rB Y b n c l o) (hn : 0 < n) (hc : ∀ i, 0 ≤ i → i < n → c2 i = c i) (hl : ∀ i, 0 ≤ i → i < n → l2 i = l i) (ho : ∀ i, 0 ≤ i → i < n → o2 i = o i) : rB Y b n c2 l2 o2 := by
  refine ⟨r.1, ?_, fun i p q => ?_⟩
  · rw [r.2.1, at0_in (by omega), at0_in (by omega), hc _ (by omega) (by omega)]
  · rw [hc i p q, hl i p q, ho i p q]
    exact r.2.2 i p q
section ACT7
variable {k : Int} {s0 s1 s2 s3 s4 : vST} {V W : Int → Int} {vL0 vL1 vL2 : Nat → Int32} {vL3 : Int32} {vR0 vR1 vR2 : Nat → Int32} {vR3 : Int32} {vM0 vM1 : Nat → Int32} {vM2 : Int32}
theorem e_joinVerses (hH : rH k s0 s1 s2 s3 s4 V) (hS : rS ((vL0, vL1, vL2, vL3), (vR0, vR1, vR2, vR3), (vM0, vM1, vM2)) W) (i1 i2 : Int32) : ∃ (a : Int32) (x0 x1 x2 : Nat → Int32) (x3 : Int32) (y0 y1 y2 : Nat → Int32) (y3 : Int32) (m0 m1 : Nat → Int32) (m2 : Int32) (k2 : Int) (r : Nat) (t0 t1 t2 t3 t4 : vST) (V2 W2 : Int → Int), pX9_joinVerses vL0 vL1 vL2 vL3 vR0 vR1 vR2 vR3 vM0 vM1 vM2 (I k) s0 s1 s2 s3 s4 i1 i2 = some (a, x0, x1, x2, x3, y0, y1, y2, y3, m0, m1, m2, I k2, r, t0, t1, t2, t3, t4) ∧ pX10_joinVerses (cz W) (cz V) (I k) i1 i2 = some (a, cz W2, cz V2, I k2) ∧ rS ((x0, x1, x2, x3), (y0, y1, y2, y3), (m0, m1, m2)) W2 ∧ rHr r k2 t0 t1 t2 t3 t4 V2 := by
  obtain ⟨b, hb, rfl⟩ := I_of i1
  obtain ⟨v, hv, rfl⟩ := I_of i2
  obtain ⟨c0, l0, o0, n0, c1, l1, o1, n1, L, R, g, e, k0, k1, kM, r0, r1, rm⟩ := id hS
  simp only [Prod.mk.injEq] at e
  obtain ⟨⟨rfl, rfl, rfl, rfl⟩, ⟨rfl, rfl, rfl, rfl⟩, rfl, rfl, rfl⟩ := e
  have b0 := k0.1
  have b1 := k1.1
  have hg := kM.1
  by_cases q : (b = 0 ∧ 0 ≤ v ∧ v < n0) ∨ (b = 1 ∧ 0 ≤ v ∧ v < n1)
  · have hY := f9_isVerseY ⟨b0, b1⟩ q
    have hN := f10_noVerseY (W := W) ⟨b0, b1⟩ r0.1 r1.1 q
    rcases q with ⟨rfl, q⟩ | ⟨rfl, q⟩
    · have kv := k0.2 v q.1 q.2
      by_cases qn : v + 1 = n0
      · refine ⟨I (-4), cz c0, cz l0, cz o0, I n0, cz c1, cz l1, cz o1, I n1, cz L, cz R, I g, k, 0, s0, s1, s2, s3, s4, V, W, ?_, ?_, hS, Or.inl ⟨rfl, hH⟩⟩
        · unfold pX9_joinVerses
          simp only [if_true, if_false, I_add, I_sub, I_mul, I_neg, I_ofNat, Option.bind_some, kIn, I_l0, I_l1, I_l2, I_l3, I_l4, I_l5, I_l6, I_l8, I_l9, I_l10, I_l11, I_l32, I_l40, I_l43, I_l44, I_l45, I_l48, I_l49, I_l57, I_l58, I_l60, I_l61, I_l62, I_l79, I_l80, I_l100, I_l120, I_l180, I_l200, I_l240, I_l300, I_l360, I_l361, I_l362, I_l363, I_l364, I_l365, I_l485, I_l605, I_l1999, I_l2000]
          rw [hY, f0_chapterOf (n := n0) (by omega), f0_chapterOf (n := n0) (by omega), at0_in q, at0_out (a := v + 1) (by omega)]
          simp (disch := omega) only [if_true, if_false, I_add, I_sub, I_mul, I_neg, I_ofNat, Option.bind_some, kIn, I_l0, I_l1, I_l2, I_l3, I_l4, I_l5, I_l6, I_l8, I_l9, I_l10, I_l11, I_l32, I_l40, I_l43, I_l44, I_l45, I_l48, I_l49, I_l57, I_l58, I_l60, I_l61, I_l62, I_l79, I_l80, I_l100, I_l120, I_l180, I_l200, I_l240, I_l300, I_l360, I_l361, I_l362, I_l363, I_l364, I_l365, I_l485, I_l605, I_l1999, I_l2000, I_eq, if_neg, if_pos]
        · unfold pX10_joinVerses
          simp only [if_true, if_false, I_add, I_sub, I_mul, I_neg, I_ofNat, Option.bind_some, kIn, I_l0, I_l1, I_l2, I_l3, I_l4, I_l5, I_l6, I_l8, I_l9, I_l10, I_l11, I_l32, I_l40, I_l43, I_l44, I_l45, I_l48, I_l49, I_l57, I_l58, I_l60, I_l61, I_l62, I_l79, I_l80, I_l100, I_l120, I_l180, I_l200, I_l240, I_l300, I_l360, I_l361, I_l362, I_l363, I_l364, I_l365, I_l485, I_l605, I_l1999, I_l2000]
          rw [hN, f10_size (by omega), r0.1]
          simp (disch := omega) only [if_true, if_false, I_add, I_sub, I_mul, I_neg, I_ofNat, Option.bind_some, kIn, I_l0, I_l1, I_l2, I_l3, I_l4, I_l5, I_l6, I_l8, I_l9, I_l10, I_l11, I_l32, I_l40, I_l43, I_l44, I_l45, I_l48, I_l49, I_l57, I_l58, I_l60, I_l61, I_l62, I_l79, I_l80, I_l100, I_l120, I_l180, I_l200, I_l240, I_l300, I_l360, I_l361, I_l362, I_l363, I_l364, I_l365, I_l485, I_l605, I_l1999, I_l2000, I_eq, if_pos]
      · by_cases he : c0 v = c0 (v + 1)
        · have kv1 := k0.2 (v + 1) (by omega) (by omega)
          obtain ⟨k2, r, t0, t1, t2, t3, t4, V2, hh, e1, e2⟩ := e_record hH hS
          have hF : ∀ i, 0 ≤ i → i < g → 0 ≤ sel 0 L R i ∧ sel 0 L R i ≤ 1000 := fun i p z => by have := okM_S (b := 0) kM i p z; omega
          have hSn : Sm (sel 0 L R) g = n0 := kM.2.2.1
          obtain ⟨j, j0, j1, j2⟩ := ex_grp (F := sel 0 L R) (g := g) (v := v) (n := n0) (fun i p z => (hF i p z).1) hg.1 hSn q
          obtain ⟨w, w0, w1, w2⟩ := ex_grp (F := sel 0 L R) (g := g) (v := v + 1) (n := n0) (fun i p z => (hF i p z).1) hg.1 hSn (by omega)
          have jw : j ≤ w := grp_mono (F := sel 0 L R) (fun i p z => (hF i p z).1) j0 w0 j1 w2 (by omega)
          have G9 := f1_groupOf (L := L) (R := R) (b := 0) ⟨hg, by omega, j0, by omega⟩ hF j1 j2
          have G9w := f1_groupOf (L := L) (R := R) (b := 0) ⟨hg, by omega, w0, by omega⟩ hF w1 w2
          have G10 := f10_groupOf (W := W) (L := L) (R := R) (b := 0) ⟨hg, by omega, j0, by omega⟩ rm hF j1 j2
          have G10w := f10_groupOf (W := W) (L := L) (R := R) (b := 0) ⟨hg, by omega, w0, by omega⟩ rm hF w1 w2
          obtain ⟨L2, R2, z0, z1⟩ := f1_mergeM (L := L) (R := R) (g := g) (a := j) (c := w) (by omega)
          obtain ⟨L3, R3, z2, z4⟩ := f1_resizeB (L := L2) (R := R2) (g := g - (w - j)) (a := j) (b := 0) (d := -1) (by omega)
          have z3 : ∀ i, 0 ≤ i → i < g - (w - j) → L3 i = (if (0 : Int) = 0 then dlt (mrg L j w) j (-1) else mrg L j w) i ∧ R3 i = (if (0 : Int) = 0 then mrg R j w else dlt (mrg R j w) j (-1)) i := fun i p z => by
            have h5 := z2 i p z
            have h6 := z0 i p z
            rw [h5.1, h5.2]
            unfold dlt
            exact ⟨congrArg (fun t => if i = j then t + -1 else t) h6.1, h6.2⟩
          obtain ⟨Y, y1, y2, y3, y4⟩ := f10_joinVerses (V := V) (kk := I k) (by omega) (by omega) r0 rm k0 he ⟨j0.1, jw, w0.2, hg.2⟩ rfl rfl G10 G10w e2
          have hmm : sel 0 (mrg L j w) (mrg R j w) j = Sm (sel 0 L R) (w + 1) - Sm (sel 0 L R) j := by
            show mrg (sel 0 L R) j w j = _
            unfold mrg
            rw [if_neg (by omega), if_pos rfl]
          have hMk := okM_mrg kM ⟨b0.2, b1.2⟩ ⟨j0.1, jw, w0.2⟩
          have hkm := hMk.2.1 j j0.1 (by omega)
          have hse : sel 0 (mrg L j w) (mrg R j w) j = mrg L j w j := rfl
          have hM := (okM_dlt (b := 0) (d := -1) (m2 := n0 - 1) (n2 := n1) hMk ⟨j0.1, by omega⟩ rfl rfl (by omega) (by omega)).val z3
          have ok := okB_rmv (c2 := cls c0 60 (v + 1) 1 n0) (l2 := cls (up l0 v (if 2000 < l0 v + l0 (v + 1) then 2000 else l0 v + l0 (v + 1))) 60 (v + 1) 1 n0) (o2 := cls (up o0 v (if 10 < o0 v + o0 (v + 1) then 10 else o0 v + o0 (v + 1))) 60 (v + 1) 1 n0) (x := if 2000 < l0 v + l0 (v + 1) then 2000 else l0 v + l0 (v + 1)) (y := if 10 < o0 v + o0 (v + 1) then 10 else o0 v + o0 (v + 1)) k0 (by omega) (by split <;> omega) (by split <;> omega) he (fun i p z => rmv_class (by omega) ⟨p, z⟩) (fun i p z => rmv_class (by omega) ⟨p, z⟩) (fun i p z => rmv_class (by omega) ⟨p, z⟩)
          have rO := y1.valB (by omega) (fun i p z => rmv_class (by omega) ⟨p, z⟩) (fun i p z => rmv_class (by omega) ⟨p, z⟩) (fun i p z => rmv_class (by omega) ⟨p, z⟩)
          refine ⟨I (n0 - 1), cz (cls c0 60 (v + 1) 1 n0), cz (cls (up l0 v (if 2000 < l0 v + l0 (v + 1) then 2000 else l0 v + l0 (v + 1))) 60 (v + 1) 1 n0), cz (cls (up o0 v (if 10 < o0 v + o0 (v + 1) then 10 else o0 v + o0 (v + 1))) 60 (v + 1) 1 n0), I (n0 - 1), cz c1, cz l1, cz o1, I n1, cz L3, cz R3, I (g - (w - j)), k2, r, t0, t1, t2, t3, t4, V2, Y, ?_, y4, ⟨_, _, _, n0 - 1, c1, l1, o1, n1, L3, R3, _, rfl, ok, k1, hM, rO, y3 1 n1 c1 l1 o1 (by omega) b1.2 r1, y2.val z3⟩, hh⟩
          unfold pX9_joinVerses
          simp only [if_true, if_false, I_add, I_sub, I_mul, I_neg, I_ofNat, Option.bind_some, kIn, I_l0, I_l1, I_l2, I_l3, I_l4, I_l5, I_l6, I_l8, I_l9, I_l10, I_l11, I_l32, I_l40, I_l43, I_l44, I_l45, I_l48, I_l49, I_l57, I_l58, I_l60, I_l61, I_l62, I_l79, I_l80, I_l100, I_l120, I_l180, I_l200, I_l240, I_l300, I_l360, I_l361, I_l362, I_l363, I_l364, I_l365, I_l485, I_l605, I_l1999, I_l2000]
          rw [hY, f0_chapterOf (n := n0) (by omega), f0_chapterOf (n := n0) (by omega), at0_in q, at0_in (a := v + 1) (by omega), ← he]
          simp (disch := omega) only [if_true, if_false, I_add, I_sub, I_mul, I_neg, I_ofNat, Option.bind_some, kIn, I_l0, I_l1, I_l2, I_l3, I_l4, I_l5, I_l6, I_l8, I_l9, I_l10, I_l11, I_l32, I_l40, I_l43, I_l44, I_l45, I_l48, I_l49, I_l57, I_l58, I_l60, I_l61, I_l62, I_l79, I_l80, I_l100, I_l120, I_l180, I_l200, I_l240, I_l300, I_l360, I_l361, I_l362, I_l363, I_l364, I_l365, I_l485, I_l605, I_l1999, I_l2000, I_eq, if_neg, if_pos]
          refine obind e1 (obind G9 (obind G9w (obind z1 (obind z4 (obind (f0_joinWithNext (by omega) (fun i p z => by have := (k0.2 i p z).1; omega) (fun i p z => by have := (k0.2 i p z).2.1; omega)) rfl)))))
        · refine ⟨I (-4), cz c0, cz l0, cz o0, I n0, cz c1, cz l1, cz o1, I n1, cz L, cz R, I g, k, 0, s0, s1, s2, s3, s4, V, W, ?_, ?_, hS, Or.inl ⟨rfl, hH⟩⟩
          · have kv1 := k0.2 (v + 1) (by omega) (by omega)
            unfold pX9_joinVerses
            simp only [if_true, if_false, I_add, I_sub, I_mul, I_neg, I_ofNat, Option.bind_some, kIn, I_l0, I_l1, I_l2, I_l3, I_l4, I_l5, I_l6, I_l8, I_l9, I_l10, I_l11, I_l32, I_l40, I_l43, I_l44, I_l45, I_l48, I_l49, I_l57, I_l58, I_l60, I_l61, I_l62, I_l79, I_l80, I_l100, I_l120, I_l180, I_l200, I_l240, I_l300, I_l360, I_l361, I_l362, I_l363, I_l364, I_l365, I_l485, I_l605, I_l1999, I_l2000]
            rw [hY, f0_chapterOf (n := n0) (by omega), f0_chapterOf (n := n0) (by omega), at0_in q, at0_in (a := v + 1) (by omega)]
            simp (disch := omega) only [if_true, if_false, I_add, I_sub, I_mul, I_neg, I_ofNat, Option.bind_some, kIn, I_l0, I_l1, I_l2, I_l3, I_l4, I_l5, I_l6, I_l8, I_l9, I_l10, I_l11, I_l32, I_l40, I_l43, I_l44, I_l45, I_l48, I_l49, I_l57, I_l58, I_l60, I_l61, I_l62, I_l79, I_l80, I_l100, I_l120, I_l180, I_l200, I_l240, I_l300, I_l360, I_l361, I_l362, I_l363, I_l364, I_l365, I_l485, I_l605, I_l1999, I_l2000, I_eq, if_neg, if_pos]
          · have kv1 := k0.2 (v + 1) (by omega) (by omega)
            unfold pX10_joinVerses
            simp only [if_true, if_false, I_add, I_sub, I_mul, I_neg, I_ofNat, Option.bind_some, kIn, I_l0, I_l1, I_l2, I_l3, I_l4, I_l5, I_l6, I_l8, I_l9, I_l10, I_l11, I_l32, I_l40, I_l43, I_l44, I_l45, I_l48, I_l49, I_l57, I_l58, I_l60, I_l61, I_l62, I_l79, I_l80, I_l100, I_l120, I_l180, I_l200, I_l240, I_l300, I_l360, I_l361, I_l362, I_l363, I_l364, I_l365, I_l485, I_l605, I_l1999, I_l2000]
            rw [hN, f10_size (by omega), r0.1, f10_chapterOf (by omega) r0, f10_chapterOf (by omega) r0]
            simp (disch := omega) only [if_true, if_false, I_add, I_sub, I_mul, I_neg, I_ofNat, Option.bind_some, kIn, I_l0, I_l1, I_l2, I_l3, I_l4, I_l5, I_l6, I_l8, I_l9, I_l10, I_l11, I_l32, I_l40, I_l43, I_l44, I_l45, I_l48, I_l49, I_l57, I_l58, I_l60, I_l61, I_l62, I_l79, I_l80, I_l100, I_l120, I_l180, I_l200, I_l240, I_l300, I_l360, I_l361, I_l362, I_l363, I_l364, I_l365, I_l485, I_l605, I_l1999, I_l2000, I_eq, if_neg, if_pos]
    · have kv := k1.2 v q.1 q.2
      by_cases qn : v + 1 = n1
      · refine ⟨I (-4), cz c0, cz l0, cz o0, I n0, cz c1, cz l1, cz o1, I n1, cz L, cz R, I g, k, 0, s0, s1, s2, s3, s4, V, W, ?_, ?_, hS, Or.inl ⟨rfl, hH⟩⟩
        · unfold pX9_joinVerses
          simp only [if_true, if_false, I_add, I_sub, I_mul, I_neg, I_ofNat, Option.bind_some, kIn, I_l0, I_l1, I_l2, I_l3, I_l4, I_l5, I_l6, I_l8, I_l9, I_l10, I_l11, I_l32, I_l40, I_l43, I_l44, I_l45, I_l48, I_l49, I_l57, I_l58, I_l60, I_l61, I_l62, I_l79, I_l80, I_l100, I_l120, I_l180, I_l200, I_l240, I_l300, I_l360, I_l361, I_l362, I_l363, I_l364, I_l365, I_l485, I_l605, I_l1999, I_l2000]
          rw [hY, f0_chapterOf (n := n1) (by omega), f0_chapterOf (n := n1) (by omega), at0_in q, at0_out (a := v + 1) (by omega)]
          simp (disch := omega) only [if_true, if_false, I_add, I_sub, I_mul, I_neg, I_ofNat, Option.bind_some, kIn, I_l0, I_l1, I_l2, I_l3, I_l4, I_l5, I_l6, I_l8, I_l9, I_l10, I_l11, I_l32, I_l40, I_l43, I_l44, I_l45, I_l48, I_l49, I_l57, I_l58, I_l60, I_l61, I_l62, I_l79, I_l80, I_l100, I_l120, I_l180, I_l200, I_l240, I_l300, I_l360, I_l361, I_l362, I_l363, I_l364, I_l365, I_l485, I_l605, I_l1999, I_l2000, I_eq, if_neg, if_pos]
        · unfold pX10_joinVerses
          simp only [if_true, if_false, I_add, I_sub, I_mul, I_neg, I_ofNat, Option.bind_some, kIn, I_l0, I_l1, I_l2, I_l3, I_l4, I_l5, I_l6, I_l8, I_l9, I_l10, I_l11, I_l32, I_l40, I_l43, I_l44, I_l45, I_l48, I_l49, I_l57, I_l58, I_l60, I_l61, I_l62, I_l79, I_l80, I_l100, I_l120, I_l180, I_l200, I_l240, I_l300, I_l360, I_l361, I_l362, I_l363, I_l364, I_l365, I_l485, I_l605, I_l1999, I_l2000]
          rw [hN, f10_size (by omega), r1.1]
          simp (disch := omega) only [if_true, if_false, I_add, I_sub, I_mul, I_neg, I_ofNat, Option.bind_some, kIn, I_l0, I_l1, I_l2, I_l3, I_l4, I_l5, I_l6, I_l8, I_l9, I_l10, I_l11, I_l32, I_l40, I_l43, I_l44, I_l45, I_l48, I_l49, I_l57, I_l58, I_l60, I_l61, I_l62, I_l79, I_l80, I_l100, I_l120, I_l180, I_l200, I_l240, I_l300, I_l360, I_l361, I_l362, I_l363, I_l364, I_l365, I_l485, I_l605, I_l1999, I_l2000, I_eq, if_pos]
      · by_cases he : c1 v = c1 (v + 1)
        · have kv1 := k1.2 (v + 1) (by omega) (by omega)
          obtain ⟨k2, r, t0, t1, t2, t3, t4, V2, hh, e1, e2⟩ := e_record hH hS
          have hF : ∀ i, 0 ≤ i → i < g → 0 ≤ sel 1 L R i ∧ sel 1 L R i ≤ 1000 := fun i p z => by have := okM_S (b := 1) kM i p z; omega
          have hSn : Sm (sel 1 L R) g = n1 := kM.2.2.2
          obtain ⟨j, j0, j1, j2⟩ := ex_grp (F := sel 1 L R) (g := g) (v := v) (n := n1) (fun i p z => (hF i p z).1) hg.1 hSn q
          obtain ⟨w, w0, w1, w2⟩ := ex_grp (F := sel 1 L R) (g := g) (v := v + 1) (n := n1) (fun i p z => (hF i p z).1) hg.1 hSn (by omega)
          have jw : j ≤ w := grp_mono (F := sel 1 L R) (fun i p z => (hF i p z).1) j0 w0 j1 w2 (by omega)
          have G9 := f1_groupOf (L := L) (R := R) (b := 1) ⟨hg, by omega, j0, by omega⟩ hF j1 j2
          have G9w := f1_groupOf (L := L) (R := R) (b := 1) ⟨hg, by omega, w0, by omega⟩ hF w1 w2
          have G10 := f10_groupOf (W := W) (L := L) (R := R) (b := 1) ⟨hg, by omega, j0, by omega⟩ rm hF j1 j2
          have G10w := f10_groupOf (W := W) (L := L) (R := R) (b := 1) ⟨hg, by omega, w0, by omega⟩ rm hF w1 w2
          obtain ⟨L2, R2, z0, z1⟩ := f1_mergeM (L := L) (R := R) (g := g) (a := j) (c := w) (by omega)
          obtain ⟨L3, R3, z2, z4⟩ := f1_resizeB (L := L2) (R := R2) (g := g - (w - j)) (a := j) (b := 1) (d := -1) (by omega)
          have z3 : ∀ i, 0 ≤ i → i < g - (w - j) → L3 i = (if (1 : Int) = 0 then dlt (mrg L j w) j (-1) else mrg L j w) i ∧ R3 i = (if (1 : Int) = 0 then mrg R j w else dlt (mrg R j w) j (-1)) i := fun i p z => by
            have h5 := z2 i p z
            have h6 := z0 i p z
            rw [h5.1, h5.2]
            unfold dlt
            exact ⟨h6.1, congrArg (fun t => if i = j then t + -1 else t) h6.2⟩
          obtain ⟨Y, y1, y2, y3, y4⟩ := f10_joinVerses (V := V) (kk := I k) (by omega) (by omega) r1 rm k1 he ⟨j0.1, jw, w0.2, hg.2⟩ rfl rfl G10 G10w e2
          have hmm : sel 1 (mrg L j w) (mrg R j w) j = Sm (sel 1 L R) (w + 1) - Sm (sel 1 L R) j := by
            show mrg (sel 1 L R) j w j = _
            unfold mrg
            rw [if_neg (by omega), if_pos rfl]
          have hMk := okM_mrg kM ⟨b0.2, b1.2⟩ ⟨j0.1, jw, w0.2⟩
          have hkm := hMk.2.1 j j0.1 (by omega)
          have hse : sel 1 (mrg L j w) (mrg R j w) j = mrg R j w j := rfl
          have hM := (okM_dlt (b := 1) (d := -1) (m2 := n0) (n2 := n1 - 1) hMk ⟨j0.1, by omega⟩ rfl rfl (by omega) (by omega)).val z3
          have ok := okB_rmv (c2 := cls c1 60 (v + 1) 1 n1) (l2 := cls (up l1 v (if 2000 < l1 v + l1 (v + 1) then 2000 else l1 v + l1 (v + 1))) 60 (v + 1) 1 n1) (o2 := cls (up o1 v (if 10 < o1 v + o1 (v + 1) then 10 else o1 v + o1 (v + 1))) 60 (v + 1) 1 n1) (x := if 2000 < l1 v + l1 (v + 1) then 2000 else l1 v + l1 (v + 1)) (y := if 10 < o1 v + o1 (v + 1) then 10 else o1 v + o1 (v + 1)) k1 (by omega) (by split <;> omega) (by split <;> omega) he (fun i p z => rmv_class (by omega) ⟨p, z⟩) (fun i p z => rmv_class (by omega) ⟨p, z⟩) (fun i p z => rmv_class (by omega) ⟨p, z⟩)
          have rO := y1.valB (by omega) (fun i p z => rmv_class (by omega) ⟨p, z⟩) (fun i p z => rmv_class (by omega) ⟨p, z⟩) (fun i p z => rmv_class (by omega) ⟨p, z⟩)
          refine ⟨I (n1 - 1), cz c0, cz l0, cz o0, I n0, cz (cls c1 60 (v + 1) 1 n1), cz (cls (up l1 v (if 2000 < l1 v + l1 (v + 1) then 2000 else l1 v + l1 (v + 1))) 60 (v + 1) 1 n1), cz (cls (up o1 v (if 10 < o1 v + o1 (v + 1) then 10 else o1 v + o1 (v + 1))) 60 (v + 1) 1 n1), I (n1 - 1), cz L3, cz R3, I (g - (w - j)), k2, r, t0, t1, t2, t3, t4, V2, Y, ?_, y4, ⟨c0, l0, o0, n0, _, _, _, n1 - 1, L3, R3, _, rfl, k0, ok, hM, y3 0 n0 c0 l0 o0 (by omega) b0.2 r0, rO, y2.val z3⟩, hh⟩
          unfold pX9_joinVerses
          simp only [if_true, if_false, I_add, I_sub, I_mul, I_neg, I_ofNat, Option.bind_some, kIn, I_l0, I_l1, I_l2, I_l3, I_l4, I_l5, I_l6, I_l8, I_l9, I_l10, I_l11, I_l32, I_l40, I_l43, I_l44, I_l45, I_l48, I_l49, I_l57, I_l58, I_l60, I_l61, I_l62, I_l79, I_l80, I_l100, I_l120, I_l180, I_l200, I_l240, I_l300, I_l360, I_l361, I_l362, I_l363, I_l364, I_l365, I_l485, I_l605, I_l1999, I_l2000]
          rw [hY, f0_chapterOf (n := n1) (by omega), f0_chapterOf (n := n1) (by omega), at0_in q, at0_in (a := v + 1) (by omega), ← he]
          simp (disch := omega) only [if_true, if_false, I_add, I_sub, I_mul, I_neg, I_ofNat, Option.bind_some, kIn, I_l0, I_l1, I_l2, I_l3, I_l4, I_l5, I_l6, I_l8, I_l9, I_l10, I_l11, I_l32, I_l40, I_l43, I_l44, I_l45, I_l48, I_l49, I_l57, I_l58, I_l60, I_l61, I_l62, I_l79, I_l80, I_l100, I_l120, I_l180, I_l200, I_l240, I_l300, I_l360, I_l361, I_l362, I_l363, I_l364, I_l365, I_l485, I_l605, I_l1999, I_l2000, I_eq, if_neg, if_pos]
          refine obind e1 (obind G9 (obind G9w (obind z1 (obind z4 (obind (f0_joinWithNext (by omega) (fun i p z => by have := (k1.2 i p z).1; omega) (fun i p z => by have := (k1.2 i p z).2.1; omega)) rfl)))))
        · refine ⟨I (-4), cz c0, cz l0, cz o0, I n0, cz c1, cz l1, cz o1, I n1, cz L, cz R, I g, k, 0, s0, s1, s2, s3, s4, V, W, ?_, ?_, hS, Or.inl ⟨rfl, hH⟩⟩
          · have kv1 := k1.2 (v + 1) (by omega) (by omega)
            unfold pX9_joinVerses
            simp only [if_true, if_false, I_add, I_sub, I_mul, I_neg, I_ofNat, Option.bind_some, kIn, I_l0, I_l1, I_l2, I_l3, I_l4, I_l5, I_l6, I_l8, I_l9, I_l10, I_l11, I_l32, I_l40, I_l43, I_l44, I_l45, I_l48, I_l49, I_l57, I_l58, I_l60, I_l61, I_l62, I_l79, I_l80, I_l100, I_l120, I_l180, I_l200, I_l240, I_l300, I_l360, I_l361, I_l362, I_l363, I_l364, I_l365, I_l485, I_l605, I_l1999, I_l2000]
            rw [hY, f0_chapterOf (n := n1) (by omega), f0_chapterOf (n := n1) (by omega), at0_in q, at0_in (a := v + 1) (by omega)]
            simp (disch := omega) only [if_true, if_false, I_add, I_sub, I_mul, I_neg, I_ofNat, Option.bind_some, kIn, I_l0, I_l1, I_l2, I_l3, I_l4, I_l5, I_l6, I_l8, I_l9, I_l10, I_l11, I_l32, I_l40, I_l43, I_l44, I_l45, I_l48, I_l49, I_l57, I_l58, I_l60, I_l61, I_l62, I_l79, I_l80, I_l100, I_l120, I_l180, I_l200, I_l240, I_l300, I_l360, I_l361, I_l362, I_l363, I_l364, I_l365, I_l485, I_l605, I_l1999, I_l2000, I_eq, if_neg, if_pos]
          · have kv1 := k1.2 (v + 1) (by omega) (by omega)
            unfold pX10_joinVerses
            simp only [if_true, if_false, I_add, I_sub, I_mul, I_neg, I_ofNat, Option.bind_some, kIn, I_l0, I_l1, I_l2, I_l3, I_l4, I_l5, I_l6, I_l8, I_l9, I_l10, I_l11, I_l32, I_l40, I_l43, I_l44, I_l45, I_l48, I_l49, I_l57, I_l58, I_l60, I_l61, I_l62, I_l79, I_l80, I_l100, I_l120, I_l180, I_l200, I_l240, I_l300, I_l360, I_l361, I_l362, I_l363, I_l364, I_l365, I_l485, I_l605, I_l1999, I_l2000]
            rw [hN, f10_size (by omega), r1.1, f10_chapterOf (by omega) r1, f10_chapterOf (by omega) r1]
            simp (disch := omega) only [if_true, if_false, I_add, I_sub, I_mul, I_neg, I_ofNat, Option.bind_some, kIn, I_l0, I_l1, I_l2, I_l3, I_l4, I_l5, I_l6, I_l8, I_l9, I_l10, I_l11, I_l32, I_l40, I_l43, I_l44, I_l45, I_l48, I_l49, I_l57, I_l58, I_l60, I_l61, I_l62, I_l79, I_l80, I_l100, I_l120, I_l180, I_l200, I_l240, I_l300, I_l360, I_l361, I_l362, I_l363, I_l364, I_l365, I_l485, I_l605, I_l1999, I_l2000, I_eq, if_neg, if_pos]
  · refine ⟨I (-1), cz c0, cz l0, cz o0, I n0, cz c1, cz l1, cz o1, I n1, cz L, cz R, I g, k, 0, s0, s1, s2, s3, s4, V, W, ?_, ?_, hS, Or.inl ⟨rfl, hH⟩⟩
    · unfold pX9_joinVerses
      simp only [if_true, if_false, I_add, I_sub, I_mul, I_neg, I_ofNat, Option.bind_some, kIn, I_l0, I_l1, I_l2, I_l3, I_l4, I_l5, I_l6, I_l8, I_l9, I_l10, I_l11, I_l32, I_l40, I_l43, I_l44, I_l45, I_l48, I_l49, I_l57, I_l58, I_l60, I_l61, I_l62, I_l79, I_l80, I_l100, I_l120, I_l180, I_l200, I_l240, I_l300, I_l360, I_l361, I_l362, I_l363, I_l364, I_l365, I_l485, I_l605, I_l1999, I_l2000]
      rw [f9_isVerseN (by omega) q]
      simp (disch := omega) only [if_true, if_false, I_add, I_sub, I_mul, I_neg, I_ofNat, Option.bind_some, kIn, I_l0, I_l1, I_l2, I_l3, I_l4, I_l5, I_l6, I_l8, I_l9, I_l10, I_l11, I_l32, I_l40, I_l43, I_l44, I_l45, I_l48, I_l49, I_l57, I_l58, I_l60, I_l61, I_l62, I_l79, I_l80, I_l100, I_l120, I_l180, I_l200, I_l240, I_l300, I_l360, I_l361, I_l362, I_l363, I_l364, I_l365, I_l485, I_l605, I_l1999, I_l2000, I_eq, if_pos]
    · unfold pX10_joinVerses
      simp only [if_true, if_false, I_add, I_sub, I_mul, I_neg, I_ofNat, Option.bind_some, kIn, I_l0, I_l1, I_l2, I_l3, I_l4, I_l5, I_l6, I_l8, I_l9, I_l10, I_l11, I_l32, I_l40, I_l43, I_l44, I_l45, I_l48, I_l49, I_l57, I_l58, I_l60, I_l61, I_l62, I_l79, I_l80, I_l100, I_l120, I_l180, I_l200, I_l240, I_l300, I_l360, I_l361, I_l362, I_l363, I_l364, I_l365, I_l485, I_l605, I_l1999, I_l2000]
      rw [f10_noVerseX (by omega) r0.1 r1.1 q]
      simp (disch := omega) only [if_true, if_false, I_add, I_sub, I_mul, I_neg, I_ofNat, Option.bind_some, kIn, I_l0, I_l1, I_l2, I_l3, I_l4, I_l5, I_l6, I_l8, I_l9, I_l10, I_l11, I_l32, I_l40, I_l43, I_l44, I_l45, I_l48, I_l49, I_l57, I_l58, I_l60, I_l61, I_l62, I_l79, I_l80, I_l100, I_l120, I_l180, I_l200, I_l240, I_l300, I_l360, I_l361, I_l362, I_l363, I_l364, I_l365, I_l485, I_l605, I_l1999, I_l2000, I_eq, if_neg]
end ACT7
