-- a page asked: both sides alike
theorem if01 {C : Prop} [Decidable C] {α : Type} {x : α} : (if I (if C then 0 else 1) = I 0 then some (I 0, x) else some (I 1, x)) = some (I (if C then 0 else 1), x) := by
  by_cases z : C
  · rw [if_pos z]; exact if_pos rfl
  · rw [if_neg z]; exact if_neg (by decide)
section ASK4
variable {W : Int → Int} {vL0 vL1 vL2 : Nat → Int32} {vL3 : Int32} {vR0 vR1 vR2 : Nat → Int32} {vR3 : Int32} {vM0 vM1 : Nat → Int32} {vM2 : Int32} {y0 y1 y2 y3 d6 d7 : Int32} {w : Int → Int} {ph h : Int}
theorem e_page (hS : rS ((vL0, vL1, vL2, vL3), (vR0, vR1, vR2, vR3), (vM0, vM1, vM2)) W) (hW : rW y0 y1 w) (hZ : rZ y2 y3 d6 d7 ph h) (x4 x5 x6 x7 : Nat → Int32) (x8 x9 x10 d18 : Int32) (d19 d20 d21 d22 : Nat → Int32) (i1 i2 : Int32) : ∃ (a : Int32) (z4 z5 z6 z7 : Nat → Int32) (z8 z9 z10 e18 : Int32) (e19 e20 e21 e22 : Nat → Int32), pX9_page vL0 vL1 vL2 vL3 vR0 vR1 vR2 vR3 vM0 vM1 vM2 y0 y1 y2 y3 x4 x5 x6 x7 x8 x9 x10 i1 i2 = some (a, z4, z5, z6, z7, z8, z9, z10) ∧ pX10_page (cz W) (cz w) d6 d7 d18 d19 d20 d21 d22 i1 i2 = some (a, e18, e19, e20, e21, e22) := by
  obtain ⟨p, hp, rfl⟩ := I_of i1
  obtain ⟨y, hy, rfl⟩ := I_of i2
  obtain ⟨c0, l0, o0, n0, c1, l1, o1, n1, L, R, g, e, k0, k1, kM, r0, r1, rm⟩ := id hS
  simp only [Prod.mk.injEq] at e
  obtain ⟨⟨rfl, rfl, rfl, rfl⟩, ⟨rfl, rfl, rfl, rfl⟩, rfl, rfl, rfl⟩ := e
  have hd := hW.bd
  obtain ⟨rfl, rfl, w0, w1⟩ := id hW
  obtain ⟨rfl, rfl, rfl, rfl, hph, hh⟩ := hZ
  obtain ⟨f4, rfl, -⟩ := cz_of x4
  obtain ⟨f5, rfl, -⟩ := cz_of x5
  obtain ⟨f6, rfl, -⟩ := cz_of x6
  obtain ⟨f7, rfl, -⟩ := cz_of x7
  obtain ⟨f9, -, rfl⟩ := I_of x9
  obtain ⟨a19, rfl, -⟩ := cz_of d19
  obtain ⟨a20, rfl, -⟩ := cz_of d20
  obtain ⟨a21, rfl, -⟩ := cz_of d21
  obtain ⟨a22, rfl, -⟩ := cz_of d22
  have hg := kM.1
  unfold pX9_page pX10_page
  simp (disch := omega) only [if_true, if_false, I_add, I_sub, I_mul, I_neg, I_ofNat, Option.bind_some, kIn, I_l0, I_l1, I_l2, I_l3, I_l4, I_l5, I_l6, I_l8, I_l9, I_l10, I_l11, I_l32, I_l40, I_l43, I_l44, I_l45, I_l48, I_l49, I_l57, I_l58, I_l60, I_l61, I_l62, I_l79, I_l80, I_l100, I_l120, I_l180, I_l200, I_l240, I_l300, I_l360, I_l361, I_l362, I_l363, I_l364, I_l365, I_l485, I_l605, I_l1999, I_l2000, I_lt]
  by_cases q : p < 0
  · rw [if_pos q, if_pos q]
    exact ⟨_, _, _, _, _, _, _, _, _, _, _, _, _, rfl, rfl⟩
  · rw [if_neg q, if_neg q]
    by_cases q2 : 0 ≤ y ∧ y ≤ 4
    · have e1 : pX9_isWithin (I y) (I 0) (I 4) = some (I 1) := by rw [f9_isWithin (by omega), if_pos q2]
      have e2 : pX10_in (I y) (I 0) (I 4) = some (I 1) := by rw [f10_in (by omega), if_pos q2]
      have h1 := hgt_bd k0 k1 kM hd.2.1 hd.2.2 hh
      have h2 := nts_bd k0 k1 kM
      obtain ⟨hc, nc, pn, ls, v1, v2⟩ := f3_arrange (hc := f4) (nc := f5) (pn := f6) (ls := f7) (c9 := f9) k0 k1 kM hd.2.1 hd.2.2 hh (ph := ph) (by omega)
      obtain ⟨b19, b20, b21, b22, v3, v4, v5⟩ := f10_layPages (a19 := a19) (a20 := a20) (a21 := a21) (a22 := a22) k0 k1 kM r0 r1 rm hd.1 hd.2 hh (ph := ph) (by omega) _ _ rfl rfl
      have hC := (pg_bd (ph := ph) h1 h2 g hg.1 (Int.le_refl _)).1
      by_cases q3 : p < pgC (hgt c0 l0 c1 l1 L R (wdt w 0) (wdt w 1) h) (nts o0 o1 L R) ph g
      · obtain ⟨j, hj⟩ := ex_F (pg_some h1 h2 g hg.1 p ⟨by omega, q3⟩)
        obtain ⟨j2, hj2⟩ := ex_L (pg_some h1 h2 g hg.1 p ⟨by omega, q3⟩)
        have hF : isF b19 p g j := ⟨hj.1, by rw [(v3 j hj.1.1 hj.1.2).1]; exact hj.2.1, fun i s t => by rw [(v3 i s (by have := hj.1; omega)).1]; exact hj.2.2 i s t⟩
        have hL : isL b19 p g j2 := ⟨hj2.1, by rw [(v3 j2 hj2.1.1 hj2.1.2).1]; exact hj2.2.1, fun i s t => by rw [(v3 i (by have := hj2.1; omega) t).1]; exact hj2.2.2 i s t⟩
        have hF9 : isF pn p g j := ⟨hj.1, by rw [(v1 j hj.1.1 hj.1.2).2.2.1]; exact hj.2.1, fun i s t => by rw [(v1 i s (by have := hj.1; omega)).2.2.1]; exact hj.2.2 i s t⟩
        have hL9 : isL pn p g j2 := ⟨hj2.1, by rw [(v1 j2 hj2.1.1 hj2.1.2).2.2.1]; exact hj2.2.1, fun i s t => by rw [(v1 i (by have := hj2.1; omega) t).2.2.1]; exact hj2.2.2 i s t⟩
        have hb9 : ∀ i, 0 ≤ i → i < g → 0 ≤ pn i ∧ pn i ≤ 1000 := fun i s t => by rw [(v1 i s t).2.2.1]; have := pgP_lt (ph := ph) h1 h2 g (Int.le_refl _) i s t; omega
        have hb10 : ∀ i, 0 ≤ i → i < g → -1000 ≤ b19 i ∧ b19 i ≤ 1000 := fun i s t => by rw [(v3 i s t).1]; have := pgP_lt (ph := ph) h1 h2 g (Int.le_refl _) i s t; omega
        have t1 := psm_congr (p := p) hg.1 (fun i s t => (v1 i s t).2.2.1) (fun i s t => (v1 i s t).1)
        have t2 := psm_congr (p := p) hg.1 (fun i s t => (v1 i s t).2.2.1) (fun i s t => (v1 i s t).2.1)
        have t3 := psm_bd (P := pgP (hgt c0 l0 c1 l1 L R (wdt w 0) (wdt w 1) h) (nts o0 o1 L R) ph) (p := p) hg.1 (by omega : (0 : Int) ≤ 1000000) h1
        have t4 := psm_bd (P := pgP (hgt c0 l0 c1 l1 L R (wdt w 0) (wdt w 1) h) (nts o0 o1 L R) ph) (p := p) hg.1 (by omega : (0 : Int) ≤ 1000000) h2
        have t5 := v4 p (by omega) q3
        have F1 := f10_page_L (w := w) (B20 := b20) (B21 := b21) (B22 := b22) (ph := ph) (h := h) (c18 := I (pgC (hgt c0 l0 c1 l1 L R (wdt w 0) (wdt w 1) h) (nts o0 o1 L R) ph g)) hg rm.1 (by omega) q2 hb10 hF hL (by omega) (by omega) (by omega) 4000 (-5) (-5) 0 (by omega) hg.1 (by omega) (fun _ => rfl) (fun z => absurd z (by have := hj.1; omega)) (fun z => absurd z (by have := hj2.1; omega))
        have hcB : ∀ i, 0 ≤ i → i < g → 0 ≤ hc i ∧ hc i ≤ 1000000 := fun i s t => by rw [(v1 i s t).1]; exact h1 i s t
        have ncB : ∀ i, 0 ≤ i → i < g → 0 ≤ nc i ∧ nc i ≤ 1000000 := fun i s t => by rw [(v1 i s t).2.1]; exact h2 i s t
        have G1 := f3_firstGroupOf hg (by omega) hb9 hF9
        have G2 := f3_lastGroupOf hg (by omega) hb9 hL9
        have G3 := f3_heightSumOf (hc := hc) (p := p) hg (by omega) hb9
        have G4 := f3_noteLinesOf (hc := nc) (p := p) hg (by omega) hb9 ncB
        have G5 := f3_overflows (hc := hc) (nc := nc) (p := p) (ph := ph) hg (by omega) (by omega) hb9 hcB ncB
        rw [t1] at G3 G5
        rw [t2] at G4 G5
        rw [t5.1, t5.2] at F1
        refine ⟨_, cz hc, cz nc, cz pn, cz ls, I g, I (pgC (hgt c0 l0 c1 l1 L R (wdt w 0) (wdt w 1) h) (nts o0 o1 L R) ph g), I (Sm (emp c0 l0 c1 l1 L R (wdt w 0) (wdt w 1) h) g), _, _, _, _, _, obind e1 ((if_neg (by decide)).trans (obind v2 ?_)), obind e2 ((if_neg (by decide)).trans (obind v5 ((if_pos (by rw [I_lt (by omega)]; exact q3)).trans F1)))⟩
        refine (if_pos (by rw [I_lt (by omega)]; exact q3)).trans ?_
        have AA : ∀ (z : Int), (-2147483648 ≤ z ∧ z ≤ 2147483647) → (I y = I z) = (y = z) := fun z hz => I_eq ⟨hy, hz⟩
        simp (disch := omega) only [if_true, if_false, I_add, I_sub, I_mul, I_neg, I_ofNat, Option.bind_some, kIn, I_l0, I_l1, I_l2, I_l3, I_l4, I_l5, I_l6, I_l8, I_l9, I_l10, I_l11, I_l32, I_l40, I_l43, I_l44, I_l45, I_l48, I_l49, I_l57, I_l58, I_l60, I_l61, I_l62, I_l79, I_l80, I_l100, I_l120, I_l180, I_l200, I_l240, I_l300, I_l360, I_l361, I_l362, I_l363, I_l364, I_l365, I_l485, I_l605, I_l1999, I_l2000, AA, G1, G2, G3, G4, G5]
        by_cases y0 : y = 0
        · rw [if_pos y0, if_pos y0]
        · rw [if_neg y0, if_neg y0]
          by_cases y1 : y = 1
          · rw [if_pos y1, if_pos y1]
          · rw [if_neg y1, if_neg y1]
            by_cases y2 : y = 2
            · rw [if_pos y2, if_pos y2]
            · rw [if_neg y2, if_neg y2]
              by_cases y3 : y = 3
              · rw [if_pos y3, if_pos y3]
              · rw [if_neg y3, if_neg y3]
                exact if01
      · refine ⟨_, _, _, _, _, _, _, _, _, _, _, _, _, obind e1 ((if_neg (by decide)).trans (obind v2 (if_neg (by rw [I_lt (by omega)]; exact q3)))), obind e2 ((if_neg (by decide)).trans (obind v5 (if_neg (by rw [I_lt (by omega)]; exact q3))))⟩
    · have e1 : pX9_isWithin (I y) (I 0) (I 4) = some (I 0) := by rw [f9_isWithin (by omega), if_neg q2]
      have e2 : pX10_in (I y) (I 0) (I 4) = some (I 0) := by rw [f10_in (by omega), if_neg q2]
      exact ⟨_, _, _, _, _, _, _, _, _, _, _, _, _, obind e1 (if_pos (by decide)), obind e2 (if_pos (by decide))⟩
end ASK4
