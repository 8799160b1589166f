-- a reference read from its start
def r10b (vD0 : Nat → Int32) (vD3 : Int32) (vD4 : Nat → Int32) (c13 c14 y1 y2 p g : Int32) : Option (Int32 × Int32 × Int32 × Int32 × Int32) := (pX10_sign vD3 vD4 p g (58 : Int32)).bind fun q6 => ((pX10_number vD3 vD4 q6.1 q6.2).bind fun q8 => if q8.2.2.1 = 0 then pX10_readReference_j71 vD0 vD3 vD4 q8.2.1 q8.2.2.1 q8.2.2.2 c13 c14 y1 y2 q8.1 else ((pX10_versesOf vD0 y1 y2).bind fun q42 => if q42 < q8.1 then pX10_readReference_j71 vD0 vD3 vD4 q8.2.1 q8.2.2.1 q8.2.2.2 c13 c14 y1 y2 q8.1 else pX10_readReference_j72 vD0 vD3 vD4 q8.2.1 q8.2.2.1 q8.2.2.2 c13 c14 y1 y2 q8.1 (1 : Int32)))
theorem r10_j35 {vD0 : Nat → Int32} {vD3 : Int32} {vD4 : Nat → Int32} {c5 c6 c7 c13 c14 y1 y2 t1 : Int32} : pX10_readReference_j35 vD0 vD3 vD4 c5 c6 c7 c13 c14 y1 y2 t1 = (pX10_needs c5 c6 c7 t1).bind fun q4 => r10b vD0 vD3 vD4 c13 c14 y1 y2 q4.1 q4.2 := rfl
theorem r10bB {D : Nat → Int32} {S2 : Int → Int} {n q : Int} {c13 c14 y1 y2 : Int32} : r10b D (I n) (cz S2) c13 c14 y1 y2 (I q) (I 0) = some (I q, I 0, I q, (-5 : Int32), (-5 : Int32)) := obind f10_signB (obind f10_numberB ((if_pos (by first | decide | rfl)).trans r10_j72B))
theorem r10_j72N {D T : Nat → Int32} {n c13 c14 y1 y2 y3 : Int32} {p ns : Int} : pX10_readReference_j72 D n T (I p) (I 1) (I ns) c13 c14 y1 y2 y3 (0 : Int32) = some (I ns, I 0, I ns, (-5 : Int32), (-5 : Int32)) := by
  have e1 : pX10_needs (I p) (I 1) (I ns) (0 : Int32) = some (I ns, I 0) := f10_needs (x := 0) (by omega)
  exact obind e1 ((if_pos (by first | decide | rfl)).trans (if_pos (by first | decide | rfl)))
theorem r10_j72Y {D T : Nat → Int32} {n c13 c14 y1 y2 : Int32} {p ns j v : Int} (e : pX10_firstOf D y1 y2 = some (I j)) : pX10_readReference_j72 D n T (I p) (I 1) (I ns) c13 c14 y1 y2 (I v) (1 : Int32) = pX10_readReference_j98 D n T (I p) (I 1) (I ns) c13 c14 y1 y2 (I v) (I (j + v - 1)) := by
  have e1 : pX10_needs (I p) (I 1) (I ns) (1 : Int32) = some (I p, I 1) := f10_needs (x := 1) (by omega)
  have e2 : (I j + I v) - (1 : Int32) = I (j + v - 1) := by simp only [if_true, if_false, I_add, I_sub, I_mul, I_neg, I_ofNat, Option.bind_some, kIn, I_l0, I_l1, I_l2, I_l3, I_l4, I_l5, I_l6, I_l8, I_l9, I_l10, I_l11, I_l32, I_l40, I_l43, I_l44, I_l45, I_l48, I_l49, I_l57, I_l58, I_l60, I_l61, I_l62, I_l79, I_l80, I_l100, I_l120, I_l180, I_l200, I_l240, I_l300, I_l360, I_l361, I_l362, I_l363, I_l364, I_l365, I_l485, I_l605, I_l1999, I_l2000]
  refine obind e1 ((if_neg (by first | decide | (dsimp only; decide))).trans (obind e ?_))
  show pX10_readReference_j98 D n T (I p) (I 1) (I ns) c13 c14 y1 y2 (I v) ((I j + I v) - (1 : Int32)) = _
  rw [e2]
theorem two_B {c l o S S2 W : Int → Int} {b nb n p x : Int} {c13 c14 : Int32} (hb : 0 ≤ b ∧ b ≤ 1) (ho : okB nb c l o) (rb : rB W b nb c l o) (hT : tx S S2 n) (hp : 0 ≤ p ∧ p ≤ n) (hx : 1 ≤ x ∧ x ≤ at0 c nb (nb - 1)) : two (r6b (cz S) (I n) (cz c) (I nb) (I x) (I p) (I (-1))) (r10b (cz W) (I n) (cz S2) c13 c14 (I b) (I x) (I p) (I 1)) nb := by
  have hn := hT.1
  have hnb := ho.1
  have hcn := cnt_bd (c := c) (x := x) (n := nb) ho.1.1
  have hd := at0_bd (F := c) (n := nb) (lo := 0) (hi := 10) (fun i p z => by have := (ho.2 i p z).2.2.1; omega) (by omega) (nb - 1)
  obtain ⟨j, hj⟩ := ex_F (okB_hit ho hx)
  have hj1 := hj.1
  by_cases y : p < n ∧ S p = 58
  · have e1 : pX8_skip (cz S) (I n) (I p) (I (-1)) (58 : Int32) = some (I (p + 1), I (-1)) := f8_skipY (c := 58) (by omega) hT.s y.2
    have g1 : pX10_sign (I n) (cz S2) (I p) (I 1) (58 : Int32) = some (I (p + 1), I 1) := (f10_sign hT (c := 58) (by omega) (by omega)).trans (by rw [if_pos y])
    obtain ⟨p3, f3, v3, h3⟩ := nuF_ex S n (p + 1)
    have hb3 := nuF_bd (by omega) h3
    have e2 := f8_readNumber ⟨hn, by omega⟩ hT.s h3
    have g2 := f10_number hT (by omega) h3
    by_cases z3 : f3 = -1
    · rw [z3] at e2 g2
      rw [if_pos rfl] at g2
      have g3 := f10_versesOf (b := b) (x := x) ⟨hb, hnb⟩ (by omega) rb (okB_c2 ho)
      by_cases t : v3 ≤ cnt c x nb
      · have hrun := okB_run ho hj (v := v3) (by omega)
        have e3 := f0_findY (n := nb) (v := v3) ⟨hnb, hj1⟩ (by omega) (okB_c2 ho) hj.2.1 hj.2.2 (by omega)
        have e4 := f6_verse (ns := p + 1) (f := -1) (least := 0) (by omega) (by omega) (by omega) e3
        rw [if_pos (by omega)] at e4
        have g4 := f10_firstOf ⟨hb, hnb, hj1⟩ (by omega) rb (okB_c2 ho) hj.2.1 hj.2.2
        have g5 : ¬ I (cnt c x nb) < I v3 := fun h => by rw [I_lt (by omega)] at h; omega
        have hR0 : r10b (cz W) (I n) (cz S2) c13 c14 (I b) (I x) (I p) (I 1) = pX10_readReference_j98 (cz W) (I n) (cz S2) (I p3) (I 1) (I (p + 1)) c13 c14 (I b) (I x) (I v3) (I (j + v3 - 1)) := obind g1 (obind g2 ((if_neg (by first | decide | (dsimp only; decide))).trans (obind g3 ((if_neg g5).trans (r10_j72Y g4)))))
        by_cases z : p3 = n
        · have e5 : pX8_goesOn (I n) (I p3) (I (-1)) = some (I 0) := by rw [f8_goesOn (by omega), if_neg (by omega)]
          have hC : r6b (cz S) (I n) (cz c) (I nb) (I x) (I p) (I (-1)) = some (I (-1), I (j + v3 - 1), I (j + v3 - 1), I p3, I (-1), I v3, I (p + 1)) := obind e1 (obind e2 (obind e4 (obind e5 ((if_pos (by first | decide | rfl)).trans (obind e5 (if_pos (by first | decide | rfl)))))))
          have hR1 : pX10_readReference_j98 (cz W) (I n) (cz S2) (I p3) (I 1) (I (p + 1)) c13 c14 (I b) (I x) (I v3) (I (j + v3 - 1)) = some (I p3, I 1, I (p + 1), I (j + v3 - 1), I (j + v3 - 1)) := (if_neg (by first | decide | (dsimp only; decide))).trans (if_pos (by rw [z]))
          exact Or.inl ⟨j + v3 - 1, j + v3 - 1, _, _, _, _, _, _, by omega, hC, hR0.trans hR1⟩
        · have e5 : pX8_goesOn (I n) (I p3) (I (-1)) = some (I 1) := by rw [f8_goesOn (by omega), if_pos (by omega)]
          have z2 : ¬ I p3 = I n := fun t => z (by rw [I_eq (by omega)] at t; exact t)
          by_cases y2 : S p3 = 45
          · have e6 : pX8_skip (cz S) (I n) (I p3) (I (-1)) (45 : Int32) = some (I (p3 + 1), I (-1)) := f8_skipY (c := 45) (by omega) hT.s y2
            have g6 : pX10_sign (I n) (cz S2) (I p3) (I 1) (45 : Int32) = some (I (p3 + 1), I 1) := (f10_sign hT (c := 45) (by omega) (by omega)).trans (by rw [if_pos ⟨by omega, y2⟩])
            have hC : r6b (cz S) (I n) (cz c) (I nb) (I x) (I p) (I (-1)) = r6d (cz S) (I n) (cz c) (I nb) (I x) (I (j + v3 - 1)) (I (p3 + 1)) (I (-1)) := obind e1 (obind e2 (obind e4 (obind e5 ((if_neg (by first | decide | (dsimp only; decide))).trans (obind e6 rfl)))))
            have hR : r10b (cz W) (I n) (cz S2) c13 c14 (I b) (I x) (I p) (I 1) = r10e (cz W) (I n) (cz S2) (I (j + v3 - 1)) (I b) (I x) (I v3) (I (p3 + 1)) (I 1) := hR0.trans ((if_neg (by first | decide | (dsimp only; decide))).trans ((if_neg z2).trans (obind g6 rfl)))
            rw [hC, hR]
            exact two_E hb ho rb hT (by omega) hx hj (by omega)
          · have e6 : pX8_skip (cz S) (I n) (I p3) (I (-1)) (45 : Int32) = some (I p3, I p3) := f8_skipN (c := 45) (by omega) hT.s (fun h => y2 h.2)
            have g6 : pX10_sign (I n) (cz S2) (I p3) (I 1) (45 : Int32) = some (I p3, I 0) := (f10_sign hT (c := 45) (by omega) (by omega)).trans (by rw [if_neg (fun h => y2 h.2)])
            obtain ⟨a0, a1, x2, x3, x4, x5, e7⟩ := r6dB (p := p3) (f := p3) (x := x) (first := j + v3 - 1) ho hT (by omega) (by omega) (by omega) (by omega)
            exact two.bad ⟨a0, a1, x2, x3, x4, x5, obind e1 (obind e2 (obind e4 (obind e5 ((if_neg (by first | decide | (dsimp only; decide))).trans (obind e6 e7)))))⟩ (by omega) (hR0.trans ((if_neg (by first | decide | (dsimp only; decide))).trans ((if_neg z2).trans (obind g6 r10eB))))
      · have e3 := f0_findN (n := nb) (x := x) (v := v3) hnb (by omega) (okB_c2 ho) (by omega)
        have e4 := f6_verse (ns := p + 1) (f := -1) (least := 0) (by omega) (by omega) (by omega) e3
        rw [if_neg (by omega), flt_1] at e4
        have g5 : I (cnt c x nb) < I v3 := by rw [I_lt (by omega)]; omega
        obtain ⟨a0, a1, x2, x3, x4, x5, e5⟩ := r6cB (a := I v3) (b := I (p + 1)) (p := p3) (f := p + 1) (x := x) (first := -1) ho hT (by omega) (by omega) (by omega)
        exact two.bad ⟨a0, a1, x2, x3, x4, x5, obind e1 (obind e2 (obind e4 e5))⟩ (by omega) (obind g1 (obind g2 ((if_neg (by first | decide | (dsimp only; decide))).trans (obind g3 ((if_pos g5).trans r10_j72N)))))
    · have hf3 : f3 = p3 := by omega
      rw [hf3] at e2
      rw [if_neg z3] at g2
      obtain ⟨r, hr, e3⟩ := f0_findG ho (x := x) (v := v3) (by omega)
      have e4 := f6_verse (ns := p + 1) (f := p3) (least := 0) hr (by omega) (by omega) e3
      rw [flt_2 (by omega), ite_self] at e4
      obtain ⟨a0, a1, x2, x3, x4, x5, e5⟩ := r6cB (a := I v3) (b := I (p + 1)) (p := p3) (f := p3) (x := x) (first := r) ho hT (by omega) (by omega) (by omega)
      exact two.bad ⟨a0, a1, x2, x3, x4, x5, obind e1 (obind e2 (obind e4 e5))⟩ (by omega) (obind g1 (obind g2 ((if_pos (by first | decide | rfl)).trans r10_j72B)))
  · have e1 : pX8_skip (cz S) (I n) (I p) (I (-1)) (58 : Int32) = some (I p, I p) := f8_skipN (c := 58) (by omega) hT.s y
    have g1 : pX10_sign (I n) (cz S2) (I p) (I 1) (58 : Int32) = some (I p, I 0) := (f10_sign hT (c := 58) (by omega) (by omega)).trans (by rw [if_neg y])
    obtain ⟨p3, v3, hp3, hv3, e2⟩ := f8_readNumberB (S := S) (p := p) (f := p) ⟨hn, by omega, by omega⟩ hT.s
    obtain ⟨r, hr, e3⟩ := f0_findG ho (x := x) (v := v3) (by omega)
    have e4 := f6_verse (ns := p) (f := p) (least := 0) hr (by omega) (by omega) e3
    rw [flt_2 (by omega), ite_self] at e4
    obtain ⟨a0, a1, x2, x3, x4, x5, e5⟩ := r6cB (a := I v3) (b := I p) (p := p3) (f := p) (x := x) (first := r) ho hT (by omega) (by omega) (by omega)
    exact two.bad ⟨a0, a1, x2, x3, x4, x5, obind e1 (obind e2 (obind e4 e5))⟩ (by omega) (obind g1 (obind f10_numberB ((if_pos (by first | decide | rfl)).trans r10_j72B)))
set_option maxHeartbeats 200000 in
theorem two_A {c l o S S2 W : Int → Int} {b nb n : Int} {c13 c14 : Int32} (hb : 0 ≤ b ∧ b ≤ 1) (ho : okB nb c l o) (rb : rB W b nb c l o) (hT : tx S S2 n) : two (pX6_read (cz S) (I n) (cz c) (I nb)) (pX10_readReference (cz W) (I n) (cz S2) c13 c14 (I b)) nb := by
  have hn := hT.1
  have hnb := ho.1
  have hd := at0_bd (F := c) (n := nb) (lo := 0) (hi := 10) (fun i p z => by have := (ho.2 i p z).2.2.1; omega) (by omega) (nb - 1)
  obtain ⟨p1, f1, v1, h1⟩ := nuF_ex S n 0
  have hb1 := nuF_bd (by omega) h1
  have e0 : pX8_restart = some (I 0, I (-1), I 0, I 0) := rfl
  have e1 := f8_readNumber ⟨hn, by omega⟩ hT.s h1
  have g1 : pX10_number (I n) (cz S2) (0 : Int32) (1 : Int32) = some (I v1, I p1, I (if f1 = -1 then 1 else 0), I 0) := f10_number (p := 0) hT (by omega) h1
  have g2 := t362 hb rb.2.1
  rw [r6_read]
  by_cases z1 : f1 = -1
  · rw [z1] at e1 g1
    rw [if_pos rfl] at g1
    by_cases u : v1 ≤ at0 c nb (nb - 1)
    · have e2 : pX6_lookAtChapter (I (-1)) (I v1) (I 0) (cz c) (I nb) (1 : Int32) = some (I v1, I (-1)) := (f6_chap (least := 1) hnb hd (by omega) (by omega) (by omega)).trans (by rw [if_pos (by omega)])
      have g3 : ¬ (cz W) ((362 : Int32) + I b).toNatClampNeg < I v1 := fun h => by rw [g2, I_lt (by omega)] at h; omega
      have g4 : pX10_needs (I p1) (I 1) (I 0) (1 : Int32) = some (I p1, I 1) := f10_needs (x := 1) (by omega)
      have hC : (pX8_restart.bind fun q2 => ((pX8_readNumber (cz S) (I n) q2.1 q2.2.1).bind fun q4 => ((pX6_lookAtChapter q4.2.1 q4.2.2.1 q4.2.2.2 (cz c) (I nb) (1 : Int32)).bind fun q6 => r6b (cz S) (I n) (cz c) (I nb) q6.1 q4.1 q6.2))) = r6b (cz S) (I n) (cz c) (I nb) (I v1) (I p1) (I (-1)) := obind e0 (obind e1 (obind e2 rfl))
      have hR : pX10_readReference (cz W) (I n) (cz S2) c13 c14 (I b) = r10b (cz W) (I n) (cz S2) c13 c14 (I b) (I v1) (I p1) (I 1) := obind g1 ((if_pos (k362 hb)).trans ((if_neg g3).trans (r10_j35.trans (obind g4 rfl))))
      rw [hC, hR]
      exact two_B hb ho rb hT (by omega) (by omega)
    · have e2 : pX6_lookAtChapter (I (-1)) (I v1) (I 0) (cz c) (I nb) (1 : Int32) = some (I v1, I 0) := (f6_chap (least := 1) hnb hd (by omega) (by omega) (by omega)).trans (by rw [if_neg (by omega), flt_1])
      have g3 : (cz W) ((362 : Int32) + I b).toNatClampNeg < I v1 := by rw [g2, I_lt (by omega)]; omega
      have g4 : pX10_needs (I p1) (I 1) (I 0) (0 : Int32) = some (I 0, I 0) := f10_needs (x := 0) (by omega)
      obtain ⟨a0, a1, x2, x3, x4, x5, e3⟩ := r6bB (p := p1) (f := 0) (x := v1) ho hT (by omega) (by omega) (by omega)
      exact two.bad ⟨a0, a1, x2, x3, x4, x5, obind e0 (obind e1 (obind e2 e3))⟩ (by omega) (obind g1 ((if_pos (k362 hb)).trans ((if_pos g3).trans (r10_j35.trans (obind g4 r10bB)))))
  · have hf1 : f1 = p1 := by omega
    rw [hf1] at e1
    rw [if_neg z1] at g1
    have e2 : pX6_lookAtChapter (I p1) (I v1) (I 0) (cz c) (I nb) (1 : Int32) = some (I v1, I p1) := (f6_chap (least := 1) hnb hd (by omega) (by omega) (by omega)).trans (by rw [flt_2 (by omega), ite_self])
    obtain ⟨a0, a1, x2, x3, x4, x5, e3⟩ := r6bB (p := p1) (f := p1) (x := v1) ho hT (by omega) (by omega) (by omega)
    have g4 : ∀ t, pX10_readReference_j35 (cz W) (I n) (cz S2) (I p1) (I 0) (I 0) c13 c14 (I b) (I v1) t = some (I p1, I 0, I p1, (-5 : Int32), (-5 : Int32)) := fun t => r10_j35.trans (obind (f10_needsB (q := 0)) r10bB)
    have hR : pX10_readReference (cz W) (I n) (cz S2) c13 c14 (I b) = some (I p1, I 0, I p1, (-5 : Int32), (-5 : Int32)) := by
      refine obind g1 ((if_pos (k362 hb)).trans ?_)
      by_cases g3 : (cz W) ((362 : Int32) + I b).toNatClampNeg < I v1
      · exact (if_pos g3).trans (g4 _)
      · exact (if_neg g3).trans (g4 _)
    exact two.bad ⟨a0, a1, x2, x3, x4, x5, obind e0 (obind e1 (obind e2 e3))⟩ (by omega) hR
