-- both sides split alike
theorem sel_if (b : Int) (L R : Int → Int) : sel b L R = if b = 0 then L else R := rfl
theorem f10_splitVerse {W V V2 X2 : Int → Int} {b n v x j lv : Int} {kk : Int32} {k2 : Int} (hb : 0 ≤ b ∧ b ≤ 1) (hn : 0 ≤ v ∧ v < n ∧ n < 60) (hx : 1 ≤ x ∧ x ≤ 1999 ∧ x < lv ∧ lv ≤ 2000) (w1 : W (360 + b) = n) (hl : W (60 * b + v) = lv) (hj : pX10_groupOf (cz W) (I b) (I v) = some (I j)) (e2 : pX10_record (cz W) (cz V) kk = some (cz V2, I k2)) (h : pX10_splitVerse_L79 4000 (cz W) (cz V2) (I k2) (I b) (I v) (I x) (I (60 * b + v)) (I j) (I n) = some (I (n + 1), cz X2, cz V2, I k2)) : pX10_splitVerse (cz W) (cz V) kk (I b) (I v) (I x) = some (I (n + 1), cz X2, cz V2, I k2) := by
  unfold pX10_splitVerse
  simp only [if_true, if_false, I_add, I_sub, I_mul, I_neg, I_ofNat, Option.bind_some, kIn, I_l0, I_l1, I_l2, I_l3, I_l4, I_l5, I_l6, I_l8, I_l9, I_l10, I_l11, I_l32, I_l40, I_l43, I_l44, I_l45, I_l48, I_l49, I_l57, I_l58, I_l60, I_l61, I_l62, I_l79, I_l80, I_l100, I_l120, I_l180, I_l200, I_l240, I_l300, I_l360, I_l361, I_l362, I_l363, I_l364, I_l365, I_l485, I_l605, I_l1999, I_l2000]
  rw [f10_noVerse (n := n) (by omega) w1, if_pos (by omega), f10_in (by omega), if_pos (by omega), f10_size hb, w1]
  simp (disch := omega) only [if_true, if_false, I_add, I_sub, I_mul, I_neg, I_ofNat, Option.bind_some, kIn, I_l0, I_l1, I_l2, I_l3, I_l4, I_l5, I_l6, I_l8, I_l9, I_l10, I_l11, I_l32, I_l40, I_l43, I_l44, I_l45, I_l48, I_l49, I_l57, I_l58, I_l60, I_l61, I_l62, I_l79, I_l80, I_l100, I_l120, I_l180, I_l200, I_l240, I_l300, I_l360, I_l361, I_l362, I_l363, I_l364, I_l365, I_l485, I_l605, I_l1999, I_l2000, I_le, I_lt, I_eq, I_toInt, cz_at, cz_up, if_pos, if_neg]
  exact obind e2 (obind hj h)
theorem f10_splitBad {W : Int → Int} {V : Nat → Int32} {b n v x lv : Int} {kk : Int32} (hb : 0 ≤ b ∧ b ≤ 1) (hn : 0 ≤ v ∧ v < n ∧ n ≤ 60) (hx : 1 ≤ x ∧ x ≤ 1999) (hlv : 1 ≤ lv ∧ lv ≤ 2000) (w1 : W (360 + b) = n) (hl : W (60 * b + v) = lv) (hbad : lv ≤ x ∨ n = 60) : pX10_splitVerse (cz W) V kk (I b) (I v) (I x) = some (I (if lv ≤ x then -4 else -3), cz W, V, kk) := by
  unfold pX10_splitVerse
  simp only [if_true, if_false, I_add, I_sub, I_mul, I_neg, I_ofNat, Option.bind_some, kIn, I_l0, I_l1, I_l2, I_l3, I_l4, I_l5, I_l6, I_l8, I_l9, I_l10, I_l11, I_l32, I_l40, I_l43, I_l44, I_l45, I_l48, I_l49, I_l57, I_l58, I_l60, I_l61, I_l62, I_l79, I_l80, I_l100, I_l120, I_l180, I_l200, I_l240, I_l300, I_l360, I_l361, I_l362, I_l363, I_l364, I_l365, I_l485, I_l605, I_l1999, I_l2000]
  rw [f10_noVerse (n := n) (by omega) w1, if_pos (by omega), f10_in (by omega), if_pos hx, f10_size hb, w1]
  simp (disch := omega) only [if_true, if_false, I_add, I_sub, I_mul, I_neg, I_ofNat, Option.bind_some, kIn, I_l0, I_l1, I_l2, I_l3, I_l4, I_l5, I_l6, I_l8, I_l9, I_l10, I_l11, I_l32, I_l40, I_l43, I_l44, I_l45, I_l48, I_l49, I_l57, I_l58, I_l60, I_l61, I_l62, I_l79, I_l80, I_l100, I_l120, I_l180, I_l200, I_l240, I_l300, I_l360, I_l361, I_l362, I_l363, I_l364, I_l365, I_l485, I_l605, I_l1999, I_l2000, I_eq, I_lt, I_toInt, cz_at, if_pos, if_neg, if_true]
  by_cases z : lv ≤ x
  · rw [if_pos z, if_neg (by omega)]
  · rw [if_neg z, if_pos (by omega)]
section ACT6
variable {k : Int} {s0 s1 s2 s3 s4 : vST} {V W : Int → Int} {vL0 vL1 vL2 : Nat → Int32} {vL3 : Int32} {vR0 vR1 vR2 : Nat → Int32} {vR3 : Int32} {vM0 vM1 : Nat → Int32} {vM2 : Int32}
theorem e_splitVerse (hH : rH k s0 s1 s2 s3 s4 V) (hS : rS ((vL0, vL1, vL2, vL3), (vR0, vR1, vR2, vR3), (vM0, vM1, vM2)) W) (i1 i2 i3 : Int32) : ∃ (a : Int32) (x0 x1 x2 : Nat → Int32) (x3 : Int32) (y0 y1 y2 : Nat → Int32) (y3 : Int32) (m0 m1 : Nat → Int32) (k2 : Int) (r : Nat) (t0 t1 t2 t3 t4 : vST) (V2 W2 : Int → Int), pX9_splitVerse vL0 vL1 vL2 vL3 vR0 vR1 vR2 vR3 vM0 vM1 vM2 (I k) s0 s1 s2 s3 s4 i1 i2 i3 = some (a, x0, x1, x2, x3, y0, y1, y2, y3, m0, m1, I k2, r, t0, t1, t2, t3, t4) ∧ pX10_splitVerse (cz W) (cz V) (I k) i1 i2 i3 = some (a, cz W2, cz V2, I k2) ∧ rS ((x0, x1, x2, x3), (y0, y1, y2, y3), (m0, m1, vM2)) W2 ∧ rHr r k2 t0 t1 t2 t3 t4 V2 := by
  obtain ⟨b, hb, rfl⟩ := I_of i1
  obtain ⟨v, hv, rfl⟩ := I_of i2
  obtain ⟨x, hx, rfl⟩ := I_of i3
  obtain ⟨c0, l0, o0, n0, c1, l1, o1, n1, L, R, g, e, k0, k1, kM, r0, r1, rm⟩ := id hS
  simp only [Prod.mk.injEq] at e
  obtain ⟨⟨rfl, rfl, rfl, rfl⟩, ⟨rfl, rfl, rfl, rfl⟩, rfl, rfl, rfl⟩ := e
  have b0 := k0.1
  have b1 := k1.1
  have hg := kM.1
  by_cases q : (b = 0 ∧ 0 ≤ v ∧ v < n0) ∨ (b = 1 ∧ 0 ≤ v ∧ v < n1)
  · have hY := f9_isVerseY ⟨b0, b1⟩ q
    have hN := f10_noVerseY (W := W) ⟨b0, b1⟩ r0.1 r1.1 q
    by_cases qx : 1 ≤ x ∧ x ≤ 1999
    · rcases q with ⟨rfl, q⟩ | ⟨rfl, q⟩
      · have hl : W (60 * 0 + v) = l0 v := (r0.2.2 v q.1 q.2).1
        have kl := (k0.2 v q.1 q.2).1
        by_cases qb : l0 v ≤ x ∨ n0 = 60
        · refine ⟨I (if l0 v ≤ x then -4 else -3), cz c0, cz l0, cz o0, I n0, cz c1, cz l1, cz o1, I n1, cz L, cz R, k, 0, s0, s1, s2, s3, s4, V, W, ?_, f10_splitBad (by omega) (by omega) qx kl r0.1 hl qb, hS, Or.inl ⟨rfl, hH⟩⟩
          unfold pX9_splitVerse
          simp only [if_true, if_false, I_add, I_sub, I_mul, I_neg, I_ofNat, Option.bind_some, kIn, I_l0, I_l1, I_l2, I_l3, I_l4, I_l5, I_l6, I_l8, I_l9, I_l10, I_l11, I_l32, I_l40, I_l43, I_l44, I_l45, I_l48, I_l49, I_l57, I_l58, I_l60, I_l61, I_l62, I_l79, I_l80, I_l100, I_l120, I_l180, I_l200, I_l240, I_l300, I_l360, I_l361, I_l362, I_l363, I_l364, I_l365, I_l485, I_l605, I_l1999, I_l2000]
          rw [hY, f9_isWithin (by omega), if_pos qx, f0_lettersOf (n := n0) (by omega), at0_in q]
          simp (disch := omega) only [if_true, if_false, I_add, I_sub, I_mul, I_neg, I_ofNat, Option.bind_some, kIn, I_l0, I_l1, I_l2, I_l3, I_l4, I_l5, I_l6, I_l8, I_l9, I_l10, I_l11, I_l32, I_l40, I_l43, I_l44, I_l45, I_l48, I_l49, I_l57, I_l58, I_l60, I_l61, I_l62, I_l79, I_l80, I_l100, I_l120, I_l180, I_l200, I_l240, I_l300, I_l360, I_l361, I_l362, I_l363, I_l364, I_l365, I_l485, I_l605, I_l1999, I_l2000, I_eq, I_lt, if_neg, if_true]
          by_cases z : l0 v ≤ x
          · rw [if_pos z, if_neg (by omega)]
          · rw [if_neg z, if_pos (by omega)]
        · obtain ⟨k2, r, t0, t1, t2, t3, t4, V2, hh, e1, e2⟩ := e_record hH hS
          have hF : ∀ i, 0 ≤ i → i < g → 0 ≤ sel 0 L R i ∧ sel 0 L R i ≤ 1000 := fun i p z => by have := okM_S (b := 0) kM i p z; omega
          have hSn : Sm (sel 0 L R) g = n0 := kM.2.2.1
          obtain ⟨j, j0, j1, j2⟩ := ex_grp (F := sel 0 L R) (g := g) (v := v) (n := n0) (fun i p z => (hF i p z).1) hg.1 hSn q
          have G9 := f1_groupOf (L := L) (R := R) (b := 0) ⟨hg, by omega, j0, by omega⟩ hF j1 j2
          have G10 := f10_groupOf (W := W) (L := L) (R := R) (b := 0) ⟨hg, by omega, j0, by omega⟩ rm hF j1 j2
          obtain ⟨L2, R2, z1, z2⟩ := f1_resizeB (L := L) (R := R) (g := g) (a := j) (b := 0) (d := 1) ⟨hg, j0, by omega⟩
          obtain ⟨Y, y1, y2⟩ := f10_split79 (W := W) (V := V2) (c := c0) (l := l0) (o := o0) (b := 0) (n := n0) (v := v) (x := x) (j := j) (kk := k2) (by omega) (by omega) (by omega) r0.1 4000 W n0 (by omega) (by omega) (by omega) (fun i p z => by omega) (fun i p z w => r0.2.2 i p w) (fun i _ _ _ => rfl)
          have rmY := rM_upS (b := 0) (d := 1) (by omega) hg j0 (y1.map (by omega) hg.2 rm)
          have w362 : up (upS Y 0 j 1) (360 + 0) (n0 + 1) (362 + 0) = at0 c0 n0 (n0 - 1) := by
            rw [up_ne (by omega), upS_lo j0.1 (by omega), y1.2 _ (by omega) (by omega) (by omega)]
            exact r0.2.1
          refine ⟨I (n0 + 1), cz (up (opn c0 60 (v + 1) n0) (v + 1) (c0 v)), cz (up (opn (up l0 v x) 60 (v + 1) n0) (v + 1) (l0 v - x)), cz (up (opn (up o0 v (o0 v)) 60 (v + 1) n0) (v + 1) 0), I (n0 + 1), cz c1, cz l1, cz o1, I n1, cz L2, cz R2, k2, r, t0, t1, t2, t3, t4, V2, up (upS Y 0 j 1) (360 + 0) (n0 + 1), ?_, f10_splitVerse (by omega) (by omega) (by omega) r0.1 hl G10 e2 y2, ?_, hh⟩
          · unfold pX9_splitVerse
            simp only [if_true, if_false, I_add, I_sub, I_mul, I_neg, I_ofNat, Option.bind_some, kIn, I_l0, I_l1, I_l2, I_l3, I_l4, I_l5, I_l6, I_l8, I_l9, I_l10, I_l11, I_l32, I_l40, I_l43, I_l44, I_l45, I_l48, I_l49, I_l57, I_l58, I_l60, I_l61, I_l62, I_l79, I_l80, I_l100, I_l120, I_l180, I_l200, I_l240, I_l300, I_l360, I_l361, I_l362, I_l363, I_l364, I_l365, I_l485, I_l605, I_l1999, I_l2000]
            rw [hY, f9_isWithin (by omega), if_pos qx, f0_lettersOf (n := n0) (by omega), at0_in q, e1, G9, f0_splitBehind (n := n0) (by omega)]
            simp (disch := omega) only [if_true, if_false, I_add, I_sub, I_mul, I_neg, I_ofNat, Option.bind_some, kIn, I_l0, I_l1, I_l2, I_l3, I_l4, I_l5, I_l6, I_l8, I_l9, I_l10, I_l11, I_l32, I_l40, I_l43, I_l44, I_l45, I_l48, I_l49, I_l57, I_l58, I_l60, I_l61, I_l62, I_l79, I_l80, I_l100, I_l120, I_l180, I_l200, I_l240, I_l300, I_l360, I_l361, I_l362, I_l363, I_l364, I_l365, I_l485, I_l605, I_l1999, I_l2000, I_eq, I_lt, if_neg, if_pos]
            rw [z2]
            rfl
          · have hc : ∀ i, 0 ≤ i → i < n0 + 1 → up (opn c0 60 (v + 1) n0) (v + 1) (c0 v) i = ins c0 v (c0 v) i := fun i p z => ins_class (by omega) ⟨p, z⟩
            have hl2 : ∀ i, 0 ≤ i → i < n0 + 1 → up (opn (up l0 v x) 60 (v + 1) n0) (v + 1) (l0 v - x) i = ins (up l0 v x) v (l0 v - x) i := fun i p z => ins_class (by omega) ⟨p, z⟩
            have ho : ∀ i, 0 ≤ i → i < n0 + 1 → up (opn (up o0 v (o0 v)) 60 (v + 1) n0) (v + 1) 0 i = ins o0 v 0 i := fun i p z => by
              rw [ins_class (by omega) ⟨p, z⟩]
              have eu : ∀ i, up o0 v (o0 v) i = o0 i := fun i => by
                by_cases zz : i = v
                · rw [up_at zz, zz]
                · rw [up_ne zz]
              unfold ins
              rw [eu, eu]
            have hX : ∀ i, i < 364 → ¬ i = 360 + 0 → up (upS Y 0 j 1) (360 + 0) (n0 + 1) i = Y i := fun i p z => by rw [up_ne z, upS_lo j0.1 p]
            have hkd := hF j j0.1 j0.2
            have hkm := kM.2.1 j j0.1 j0.2
            refine ⟨_, _, _, n0 + 1, c1, l1, o1, n1, L2, R2, g, rfl, okB_ins k0 (by omega) (by omega) hc hl2 ho, k1, (okM_dlt (b := 0) (d := 1) (m2 := n0 + 1) (n2 := n1) kM j0 rfl rfl (by omega) (by omega)).val z1, y1.own (by omega) (by omega) (fun i p => hX i (by omega) (by omega)) (up_at rfl) w362 (by
              by_cases zz : v = n0 - 1
              · rw [at0_in (by omega), ins_at (by omega), zz]
              · rw [at0_in (by omega), ins_hi (by omega), show n0 + 1 - 1 - 1 = n0 - 1 by omega]) hc hl2 ho, y1.oth (d := 1) (by omega) b1.2 hX r1, (rmY.keep hg.2 (fun i p z => up_ne (by omega))).val z1⟩
      · have hl : W (60 * 1 + v) = l1 v := (r1.2.2 v q.1 q.2).1
        have kl := (k1.2 v q.1 q.2).1
        by_cases qb : l1 v ≤ x ∨ n1 = 60
        · refine ⟨I (if l1 v ≤ x then -4 else -3), cz c0, cz l0, cz o0, I n0, cz c1, cz l1, cz o1, I n1, cz L, cz R, k, 0, s0, s1, s2, s3, s4, V, W, ?_, f10_splitBad (by omega) (by omega) qx kl r1.1 hl qb, hS, Or.inl ⟨rfl, hH⟩⟩
          unfold pX9_splitVerse
          simp only [if_true, if_false, I_add, I_sub, I_mul, I_neg, I_ofNat, Option.bind_some, kIn, I_l0, I_l1, I_l2, I_l3, I_l4, I_l5, I_l6, I_l8, I_l9, I_l10, I_l11, I_l32, I_l40, I_l43, I_l44, I_l45, I_l48, I_l49, I_l57, I_l58, I_l60, I_l61, I_l62, I_l79, I_l80, I_l100, I_l120, I_l180, I_l200, I_l240, I_l300, I_l360, I_l361, I_l362, I_l363, I_l364, I_l365, I_l485, I_l605, I_l1999, I_l2000]
          rw [hY, f9_isWithin (by omega), if_pos qx, f0_lettersOf (n := n1) (by omega), at0_in q]
          simp (disch := omega) only [if_true, if_false, I_add, I_sub, I_mul, I_neg, I_ofNat, Option.bind_some, kIn, I_l0, I_l1, I_l2, I_l3, I_l4, I_l5, I_l6, I_l8, I_l9, I_l10, I_l11, I_l32, I_l40, I_l43, I_l44, I_l45, I_l48, I_l49, I_l57, I_l58, I_l60, I_l61, I_l62, I_l79, I_l80, I_l100, I_l120, I_l180, I_l200, I_l240, I_l300, I_l360, I_l361, I_l362, I_l363, I_l364, I_l365, I_l485, I_l605, I_l1999, I_l2000, I_eq, I_lt, if_neg, if_true]
          by_cases z : l1 v ≤ x
          · rw [if_pos z, if_neg (by omega)]
          · rw [if_neg z, if_pos (by omega)]
        · obtain ⟨k2, r, t0, t1, t2, t3, t4, V2, hh, e1, e2⟩ := e_record hH hS
          have hF : ∀ i, 0 ≤ i → i < g → 0 ≤ sel 1 L R i ∧ sel 1 L R i ≤ 1000 := fun i p z => by have := okM_S (b := 1) kM i p z; omega
          have hSn : Sm (sel 1 L R) g = n1 := kM.2.2.2
          obtain ⟨j, j0, j1, j2⟩ := ex_grp (F := sel 1 L R) (g := g) (v := v) (n := n1) (fun i p z => (hF i p z).1) hg.1 hSn q
          have G9 := f1_groupOf (L := L) (R := R) (b := 1) ⟨hg, by omega, j0, by omega⟩ hF j1 j2
          have G10 := f10_groupOf (W := W) (L := L) (R := R) (b := 1) ⟨hg, by omega, j0, by omega⟩ rm hF j1 j2
          obtain ⟨L2, R2, z1, z2⟩ := f1_resizeB (L := L) (R := R) (g := g) (a := j) (b := 1) (d := 1) ⟨hg, j0, by omega⟩
          obtain ⟨Y, y1, y2⟩ := f10_split79 (W := W) (V := V2) (c := c1) (l := l1) (o := o1) (b := 1) (n := n1) (v := v) (x := x) (j := j) (kk := k2) (by omega) (by omega) (by omega) r1.1 4000 W n1 (by omega) (by omega) (by omega) (fun i p z => by omega) (fun i p z w => r1.2.2 i p w) (fun i _ _ _ => rfl)
          have rmY := rM_upS (b := 1) (d := 1) (by omega) hg j0 (y1.map (by omega) hg.2 rm)
          have w362 : up (upS Y 1 j 1) (360 + 1) (n1 + 1) (362 + 1) = at0 c1 n1 (n1 - 1) := by
            rw [up_ne (by omega), upS_lo j0.1 (by omega), y1.2 _ (by omega) (by omega) (by omega)]
            exact r1.2.1
          refine ⟨I (n1 + 1), cz c0, cz l0, cz o0, I n0, cz (up (opn c1 60 (v + 1) n1) (v + 1) (c1 v)), cz (up (opn (up l1 v x) 60 (v + 1) n1) (v + 1) (l1 v - x)), cz (up (opn (up o1 v (o1 v)) 60 (v + 1) n1) (v + 1) 0), I (n1 + 1), cz L2, cz R2, k2, r, t0, t1, t2, t3, t4, V2, up (upS Y 1 j 1) (360 + 1) (n1 + 1), ?_, f10_splitVerse (by omega) (by omega) (by omega) r1.1 hl G10 e2 y2, ?_, hh⟩
          · unfold pX9_splitVerse
            simp only [if_true, if_false, I_add, I_sub, I_mul, I_neg, I_ofNat, Option.bind_some, kIn, I_l0, I_l1, I_l2, I_l3, I_l4, I_l5, I_l6, I_l8, I_l9, I_l10, I_l11, I_l32, I_l40, I_l43, I_l44, I_l45, I_l48, I_l49, I_l57, I_l58, I_l60, I_l61, I_l62, I_l79, I_l80, I_l100, I_l120, I_l180, I_l200, I_l240, I_l300, I_l360, I_l361, I_l362, I_l363, I_l364, I_l365, I_l485, I_l605, I_l1999, I_l2000]
            rw [hY, f9_isWithin (by omega), if_pos qx, f0_lettersOf (n := n1) (by omega), at0_in q, e1, G9, f0_splitBehind (n := n1) (by omega)]
            simp (disch := omega) only [if_true, if_false, I_add, I_sub, I_mul, I_neg, I_ofNat, Option.bind_some, kIn, I_l0, I_l1, I_l2, I_l3, I_l4, I_l5, I_l6, I_l8, I_l9, I_l10, I_l11, I_l32, I_l40, I_l43, I_l44, I_l45, I_l48, I_l49, I_l57, I_l58, I_l60, I_l61, I_l62, I_l79, I_l80, I_l100, I_l120, I_l180, I_l200, I_l240, I_l300, I_l360, I_l361, I_l362, I_l363, I_l364, I_l365, I_l485, I_l605, I_l1999, I_l2000, I_eq, I_lt, if_neg, if_pos]
            rw [z2]
            rfl
          · have hc : ∀ i, 0 ≤ i → i < n1 + 1 → up (opn c1 60 (v + 1) n1) (v + 1) (c1 v) i = ins c1 v (c1 v) i := fun i p z => ins_class (by omega) ⟨p, z⟩
            have hl2 : ∀ i, 0 ≤ i → i < n1 + 1 → up (opn (up l1 v x) 60 (v + 1) n1) (v + 1) (l1 v - x) i = ins (up l1 v x) v (l1 v - x) i := fun i p z => ins_class (by omega) ⟨p, z⟩
            have ho : ∀ i, 0 ≤ i → i < n1 + 1 → up (opn (up o1 v (o1 v)) 60 (v + 1) n1) (v + 1) 0 i = ins o1 v 0 i := fun i p z => by
              rw [ins_class (by omega) ⟨p, z⟩]
              have eu : ∀ i, up o1 v (o1 v) i = o1 i := fun i => by
                by_cases zz : i = v
                · rw [up_at zz, zz]
                · rw [up_ne zz]
              unfold ins
              rw [eu, eu]
            have hX : ∀ i, i < 364 → ¬ i = 360 + 1 → up (upS Y 1 j 1) (360 + 1) (n1 + 1) i = Y i := fun i p z => by rw [up_ne z, upS_lo j0.1 p]
            have hkd := hF j j0.1 j0.2
            have hkm := kM.2.1 j j0.1 j0.2
            refine ⟨c0, l0, o0, n0, _, _, _, n1 + 1, L2, R2, g, rfl, k0, okB_ins k1 (by omega) (by omega) hc hl2 ho, (okM_dlt (b := 1) (d := 1) (m2 := n0) (n2 := n1 + 1) kM j0 rfl rfl (by omega) (by omega)).val z1, y1.oth (d := 0) (by omega) b0.2 hX r0, y1.own (by omega) (by omega) (fun i p => hX i (by omega) (by omega)) (up_at rfl) w362 (by
              by_cases zz : v = n1 - 1
              · rw [at0_in (by omega), ins_at (by omega), zz]
              · rw [at0_in (by omega), ins_hi (by omega), show n1 + 1 - 1 - 1 = n1 - 1 by omega]) hc hl2 ho, (rmY.keep hg.2 (fun i p z => up_ne (by omega))).val z1⟩
    · refine ⟨I (-2), cz c0, cz l0, cz o0, I n0, cz c1, cz l1, cz o1, I n1, cz L, cz R, k, 0, s0, s1, s2, s3, s4, V, W, ?_, ?_, hS, Or.inl ⟨rfl, hH⟩⟩
      · unfold pX9_splitVerse
        simp only [if_true, if_false, I_add, I_sub, I_mul, I_neg, I_ofNat, Option.bind_some, kIn, I_l0, I_l1, I_l2, I_l3, I_l4, I_l5, I_l6, I_l8, I_l9, I_l10, I_l11, I_l32, I_l40, I_l43, I_l44, I_l45, I_l48, I_l49, I_l57, I_l58, I_l60, I_l61, I_l62, I_l79, I_l80, I_l100, I_l120, I_l180, I_l200, I_l240, I_l300, I_l360, I_l361, I_l362, I_l363, I_l364, I_l365, I_l485, I_l605, I_l1999, I_l2000]
        rw [hY, f9_isWithin (by omega), if_neg qx]
        simp (disch := omega) only [if_true, if_false, I_add, I_sub, I_mul, I_neg, I_ofNat, Option.bind_some, kIn, I_l0, I_l1, I_l2, I_l3, I_l4, I_l5, I_l6, I_l8, I_l9, I_l10, I_l11, I_l32, I_l40, I_l43, I_l44, I_l45, I_l48, I_l49, I_l57, I_l58, I_l60, I_l61, I_l62, I_l79, I_l80, I_l100, I_l120, I_l180, I_l200, I_l240, I_l300, I_l360, I_l361, I_l362, I_l363, I_l364, I_l365, I_l485, I_l605, I_l1999, I_l2000, I_eq, if_pos, if_neg]
      · unfold pX10_splitVerse
        simp only [if_true, if_false, I_add, I_sub, I_mul, I_neg, I_ofNat, Option.bind_some, kIn, I_l0, I_l1, I_l2, I_l3, I_l4, I_l5, I_l6, I_l8, I_l9, I_l10, I_l11, I_l32, I_l40, I_l43, I_l44, I_l45, I_l48, I_l49, I_l57, I_l58, I_l60, I_l61, I_l62, I_l79, I_l80, I_l100, I_l120, I_l180, I_l200, I_l240, I_l300, I_l360, I_l361, I_l362, I_l363, I_l364, I_l365, I_l485, I_l605, I_l1999, I_l2000]
        rw [hN, f10_in (by omega), if_neg qx]
        simp (disch := omega) only [if_true, if_false, I_add, I_sub, I_mul, I_neg, I_ofNat, Option.bind_some, kIn, I_l0, I_l1, I_l2, I_l3, I_l4, I_l5, I_l6, I_l8, I_l9, I_l10, I_l11, I_l32, I_l40, I_l43, I_l44, I_l45, I_l48, I_l49, I_l57, I_l58, I_l60, I_l61, I_l62, I_l79, I_l80, I_l100, I_l120, I_l180, I_l200, I_l240, I_l300, I_l360, I_l361, I_l362, I_l363, I_l364, I_l365, I_l485, I_l605, I_l1999, I_l2000, I_eq, if_pos, if_neg]
  · refine ⟨I (-1), cz c0, cz l0, cz o0, I n0, cz c1, cz l1, cz o1, I n1, cz L, cz R, k, 0, s0, s1, s2, s3, s4, V, W, ?_, ?_, hS, Or.inl ⟨rfl, hH⟩⟩
    · unfold pX9_splitVerse
      simp only [if_true, if_false, I_add, I_sub, I_mul, I_neg, I_ofNat, Option.bind_some, kIn, I_l0, I_l1, I_l2, I_l3, I_l4, I_l5, I_l6, I_l8, I_l9, I_l10, I_l11, I_l32, I_l40, I_l43, I_l44, I_l45, I_l48, I_l49, I_l57, I_l58, I_l60, I_l61, I_l62, I_l79, I_l80, I_l100, I_l120, I_l180, I_l200, I_l240, I_l300, I_l360, I_l361, I_l362, I_l363, I_l364, I_l365, I_l485, I_l605, I_l1999, I_l2000]
      rw [f9_isVerseN (by omega) q]
      simp (disch := omega) only [if_true, if_false, I_add, I_sub, I_mul, I_neg, I_ofNat, Option.bind_some, kIn, I_l0, I_l1, I_l2, I_l3, I_l4, I_l5, I_l6, I_l8, I_l9, I_l10, I_l11, I_l32, I_l40, I_l43, I_l44, I_l45, I_l48, I_l49, I_l57, I_l58, I_l60, I_l61, I_l62, I_l79, I_l80, I_l100, I_l120, I_l180, I_l200, I_l240, I_l300, I_l360, I_l361, I_l362, I_l363, I_l364, I_l365, I_l485, I_l605, I_l1999, I_l2000, I_eq, if_pos]
    · unfold pX10_splitVerse
      simp only [if_true, if_false, I_add, I_sub, I_mul, I_neg, I_ofNat, Option.bind_some, kIn, I_l0, I_l1, I_l2, I_l3, I_l4, I_l5, I_l6, I_l8, I_l9, I_l10, I_l11, I_l32, I_l40, I_l43, I_l44, I_l45, I_l48, I_l49, I_l57, I_l58, I_l60, I_l61, I_l62, I_l79, I_l80, I_l100, I_l120, I_l180, I_l200, I_l240, I_l300, I_l360, I_l361, I_l362, I_l363, I_l364, I_l365, I_l485, I_l605, I_l1999, I_l2000]
      rw [f10_noVerseX (by omega) r0.1 r1.1 q]
      simp (disch := omega) only [if_true, if_false, I_add, I_sub, I_mul, I_neg, I_ofNat, Option.bind_some, kIn, I_l0, I_l1, I_l2, I_l3, I_l4, I_l5, I_l6, I_l8, I_l9, I_l10, I_l11, I_l32, I_l40, I_l43, I_l44, I_l45, I_l48, I_l49, I_l57, I_l58, I_l60, I_l61, I_l62, I_l79, I_l80, I_l100, I_l120, I_l180, I_l200, I_l240, I_l300, I_l360, I_l361, I_l362, I_l363, I_l364, I_l365, I_l485, I_l605, I_l1999, I_l2000, I_eq, if_neg]
end ACT6
