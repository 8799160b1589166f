-- a reference read, from the place where there is no fault yet
def two (C : Option (Int32 × Int32 × Int32 × Int32 × Int32 × Int32 × Int32)) (R : Option (Int32 × Int32 × Int32 × Int32 × Int32)) (nv : Int) : Prop := (∃ (fi la : Int) (x2 x3 x4 x5 q y7 : Int32), (0 ≤ fi ∧ fi ≤ la ∧ la < nv) ∧ C = some (I (-1), I fi, I la, x2, x3, x4, x5) ∧ R = some (q, I 1, y7, I fi, I la)) ∨ (∃ (F : Int) (a0 a1 x2 x3 x4 x5 y7 a13 a14 : Int32), (0 ≤ F ∧ F ≤ 80) ∧ C = some (I F, a0, a1, x2, x3, x4, x5) ∧ R = some (I F, I 0, y7, a13, a14))
theorem two.bad {C : Option (Int32 × Int32 × Int32 × Int32 × Int32 × Int32 × Int32)} {R : Option (Int32 × Int32 × Int32 × Int32 × Int32)} {nv F : Int} {y7 a13 a14 : Int32} (h : ok6 C F) (hF : 0 ≤ F ∧ F ≤ 80) (e : R = some (I F, I 0, y7, a13, a14)) : two C R nv := by
  obtain ⟨a0, a1, x2, x3, x4, x5, hC⟩ := h
  exact Or.inr ⟨F, a0, a1, x2, x3, x4, x5, y7, a13, a14, hF, hC, e⟩
theorem two_end {S c : Int → Int} {D T : Nat → Int32} {n nb nv p fi la : Int} {a4 a5 y7 : Int32} (hn : 0 ≤ n ∧ n ≤ 80) (hp : 0 ≤ p ∧ p ≤ n) (hv : 0 ≤ fi ∧ fi ≤ la ∧ la < nv) : two (pX6_read_j66 (cz S) (I n) (cz c) (I nb) (I fi) (I la) (I p) (I (-1)) a4 a5) (pX10_readReference_j319 D (I n) T (I p) (I 1) y7 (I fi) (I la)) nv := by
  by_cases z : p = n
  · have e : pX8_goesOn (I n) (I p) (I (-1)) = some (I 0) := by rw [f8_goesOn (by omega), if_neg (by omega)]
    exact Or.inl ⟨fi, la, _, _, _, _, _, _, hv, obind e (if_pos (by first | decide | rfl)), (if_neg (by first | decide | (dsimp only; decide))).trans (if_pos (by rw [z]))⟩
  · have e : pX8_goesOn (I n) (I p) (I (-1)) = some (I 1) := by rw [f8_goesOn (by omega), if_pos (by omega)]
    have e2 : pX8_failAt (I (-1)) (I p) = some (I p) := f8_failAt (by omega)
    have z2 : ¬ I p = I n := fun t => z (by rw [I_eq (by omega)] at t; exact t)
    exact Or.inr ⟨p, _, _, _, _, _, _, _, _, _, by omega, obind e ((if_neg (by first | decide | (dsimp only; decide))).trans (obind e2 rfl)), (if_neg (by first | decide | (dsimp only; decide))).trans (if_neg z2)⟩
theorem r6v_Y {c T : Int → Int} {nb n p v ns x r first : Int} {u : Int32} (hr : -1 ≤ r ∧ r ≤ 200) (hl : -1000 ≤ first ∧ first ≤ 1000) (e : pX0_find (cz c) (I nb) (I x) (I v) = some (I r)) (z : first ≤ r) : pX6_readLast_j35 (I first) (cz T) (I n) (cz c) (I nb) u (I p) (I (-1)) (I v) (I ns) (I x) = some (I r, I p, I (-1), I v, I ns) := by
  have e2 := f6_verse (ns := ns) hr (f := -1) (by omega) hl e
  rw [if_pos z] at e2
  exact obind e2 rfl
theorem r6v_N {c T : Int → Int} {nb n p v ns x r first : Int} {u : Int32} (hr : -1 ≤ r ∧ r ≤ 200) (hl : -1000 ≤ first ∧ first ≤ 1000) (e : pX0_find (cz c) (I nb) (I x) (I v) = some (I r)) (z : ¬ first ≤ r) : pX6_readLast_j35 (I first) (cz T) (I n) (cz c) (I nb) u (I p) (I (-1)) (I v) (I ns) (I x) = some (I r, I p, I ns, I v, I ns) := by
  have e2 := f6_verse (ns := ns) hr (f := -1) (by omega) hl e
  rw [if_neg z, flt_1] at e2
  exact obind e2 rfl
theorem r10_227Y {D T : Nat → Int32} {n c13 c14 y1 y4 : Int32} {p ns j v : Int} (e : pX10_firstOf D y1 y4 = some (I j)) : pX10_readReference_j227 D n T (I p) (I 1) (I ns) c13 c14 y1 y4 (I v) (1 : Int32) = pX10_readReference_j319 D n T (I p) (I 1) (I ns) c13 (I (j + v - 1)) := by
  have e1 : pX10_needs (I p) (I 1) (I ns) (1 : Int32) = some (I p, I 1) := f10_needs (x := 1) (by omega)
  have e2 : (I j + I v) - (1 : Int32) = I (j + v - 1) := by simp only [if_true, if_false, I_add, I_sub, I_mul, I_neg, I_ofNat, Option.bind_some, kIn, I_l0, I_l1, I_l2, I_l3, I_l4, I_l5, I_l6, I_l8, I_l9, I_l10, I_l11, I_l32, I_l40, I_l43, I_l44, I_l45, I_l48, I_l49, I_l57, I_l58, I_l60, I_l61, I_l62, I_l79, I_l80, I_l100, I_l120, I_l180, I_l200, I_l240, I_l300, I_l360, I_l361, I_l362, I_l363, I_l364, I_l365, I_l485, I_l605, I_l1999, I_l2000]
  refine obind e1 ((if_neg (by first | decide | (dsimp only; decide))).trans (obind e ?_))
  show pX10_readReference_j319 D n T (I p) (I 1) (I ns) c13 ((I j + I v) - (1 : Int32)) = _
  rw [e2]
theorem r10_227N {D T : Nat → Int32} {n c13 c14 y1 y4 y5 : Int32} {p ns : Int} : pX10_readReference_j227 D n T (I p) (I 1) (I ns) c13 c14 y1 y4 y5 (0 : Int32) = some (I ns, I 0, I ns, c13, (-5 : Int32)) := by
  have e1 : pX10_needs (I p) (I 1) (I ns) (0 : Int32) = some (I ns, I 0) := f10_needs (x := 0) (by omega)
  exact obind e1 ((if_pos (by first | decide | rfl)).trans r10_j319B)
theorem r10_289Y {D T : Nat → Int32} {n c13 c14 y1 y2 : Int32} {p ns j v : Int} (e : pX10_firstOf D y1 y2 = some (I j)) : pX10_readReference_j289 D n T (I p) (I 1) (I ns) c13 c14 y1 y2 (I v) (1 : Int32) = pX10_readReference_j319 D n T (I p) (I 1) (I ns) c13 (I (j + v - 1)) := by
  have e1 : pX10_needs (I p) (I 1) (I ns) (1 : Int32) = some (I p, I 1) := f10_needs (x := 1) (by omega)
  have e2 : (I j + I v) - (1 : Int32) = I (j + v - 1) := by simp only [if_true, if_false, I_add, I_sub, I_mul, I_neg, I_ofNat, Option.bind_some, kIn, I_l0, I_l1, I_l2, I_l3, I_l4, I_l5, I_l6, I_l8, I_l9, I_l10, I_l11, I_l32, I_l40, I_l43, I_l44, I_l45, I_l48, I_l49, I_l57, I_l58, I_l60, I_l61, I_l62, I_l79, I_l80, I_l100, I_l120, I_l180, I_l200, I_l240, I_l300, I_l360, I_l361, I_l362, I_l363, I_l364, I_l365, I_l485, I_l605, I_l1999, I_l2000]
  refine obind e1 ((if_neg (by first | decide | (dsimp only; decide))).trans (obind e ?_))
  show pX10_readReference_j319 D n T (I p) (I 1) (I ns) c13 ((I j + I v) - (1 : Int32)) = _
  rw [e2]
theorem r10_289N {D T : Nat → Int32} {n c13 c14 y1 y2 y4 : Int32} {p ns : Int} : pX10_readReference_j289 D n T (I p) (I 1) (I ns) c13 c14 y1 y2 y4 (0 : Int32) = some (I ns, I 0, I ns, c13, (-5 : Int32)) := by
  have e1 : pX10_needs (I p) (I 1) (I ns) (0 : Int32) = some (I ns, I 0) := f10_needs (x := 0) (by omega)
  exact obind e1 ((if_pos (by first | decide | rfl)).trans r10_j319B)
theorem k362 {b : Int} (hb : 0 ≤ b ∧ b ≤ 1) : kIn ((362 : Int32) + I b) 605 := by
  obtain rfl | rfl : b = 0 ∨ b = 1 := by omega
  · decide
  · decide
theorem t362 {b t : Int} {W : Int → Int} (hb : 0 ≤ b ∧ b ≤ 1) (w : W (362 + b) = t) : (cz W) ((362 : Int32) + I b).toNatClampNeg = I t := by
  rw [I_l362, I_add, cz_at (by omega), w]
theorem isF_u {P : Int → Int} {p g i j : Int} (h1 : isF P p g i) (h2 : isF P p g j) : i = j := by
  have a1 := h1.1
  have a2 := h2.1
  by_cases z : i < j
  · exact absurd h1.2.1 (h2.2.2 i a1.1 z)
  · by_cases z2 : j < i
    · exact absurd h2.2.1 (h1.2.2 j a2.1 z2)
    · omega
theorem two_E {c l o S S2 W : Int → Int} {b nb n p x j v : Int} (hb : 0 ≤ b ∧ b ≤ 1) (ho : okB nb c l o) (rb : rB W b nb c l o) (hT : tx S S2 n) (hp : 0 ≤ p ∧ p ≤ n) (hx : 1 ≤ x ∧ x ≤ at0 c nb (nb - 1)) (hj : isF c x nb j) (hv : 1 ≤ v ∧ v ≤ cnt c x nb) : two (r6d (cz S) (I n) (cz c) (I nb) (I x) (I (j + v - 1)) (I p) (I (-1))) (r10e (cz W) (I n) (cz S2) (I (j + v - 1)) (I b) (I x) (I v) (I p) (I 1)) nb := by
  have hn := hT.1
  have hnb := ho.1
  have hrun := okB_run ho hj hv
  have hj1 := hj.1
  have hcn := cnt_bd (c := c) (x := x) (n := nb) ho.1.1
  have hd := at0_bd (F := c) (n := nb) (lo := 0) (hi := 10) (fun i p z => by have := (ho.2 i p z).2.2.1; omega) (by omega) (nb - 1)
  obtain ⟨p5, f5, v5, h5⟩ := nuF_ex S n p
  have hb5 := nuF_bd hp h5
  have e1 := f8_readNumber ⟨hn, hp⟩ hT.s h5
  have g1 := f10_number hT hp h5
  by_cases z5 : f5 = -1
  · rw [z5] at e1 g1
    rw [if_pos rfl] at g1
    by_cases y : p5 < n ∧ S p5 = 58
    · have e2 : pX8_stands (cz S) (I n) (I p5) (I (-1)) (58 : Int32) = some (I 1) := (f8_stands (c := 58) (by omega) hT.s).trans (by rw [if_pos ⟨rfl, y⟩])
      have g2 : pX10_isAt (I n) (cz S2) (I p5) (58 : Int32) (58 : Int32) = some (I 1) := (f10_isAt hT (x := 58) (y := 58) (by omega) (by omega) (by omega)).trans (by rw [if_pos (by omega)])
      by_cases u : x ≤ v5 ∧ v5 ≤ at0 c nb (nb - 1)
      · have e3 : pX6_lookAtChapter (I (-1)) (I v5) (I p) (cz c) (I nb) (I x) = some (I v5, I (-1)) := (f6_chap hnb hd (by omega) (by omega) (by omega)).trans (by rw [if_pos u])
        have g3 : pX10_in (I v5) (I x) ((cz W) ((362 : Int32) + I b).toNatClampNeg) = some (I 1) := by rw [t362 hb rb.2.1, f10_in (by omega), if_pos u]
        have g4 : pX10_needs (I p5) (I 1) (I p) (I 1) = some (I p5, I 1) := f10_needs (x := 1) (by omega)
        have e4 : pX8_skip (cz S) (I n) (I p5) (I (-1)) (58 : Int32) = some (I (p5 + 1), I (-1)) := f8_skipY (c := 58) (by omega) hT.s y.2
        have g5 : pX10_sign (I n) (cz S2) (I p5) (I 1) (58 : Int32) = some (I (p5 + 1), I 1) := (f10_sign hT (c := 58) (by omega) (by omega)).trans (by rw [if_pos y])
        obtain ⟨p7, f7, v7, h7⟩ := nuF_ex S n (p5 + 1)
        have hb7 := nuF_bd (by omega) h7
        have e5 := f8_readNumber ⟨hn, by omega⟩ hT.s h7
        have g6 := f10_number hT (by omega) h7
        by_cases z7 : f7 = -1
        · rw [z7] at e5 g6
          rw [if_pos rfl] at g6
          obtain ⟨j2, hj2⟩ := ex_F (okB_hit ho (x := v5) (by omega))
          have hj21 := hj2.1
          have hcn2 := cnt_bd (c := c) (x := v5) (n := nb) ho.1.1
          have g7 := f10_versesOf (b := b) (x := v5) ⟨hb, hnb⟩ (by omega) rb (okB_c2 ho)
          have g8 := f10_firstOf ⟨hb, hnb, hj21⟩ (by omega) rb (okB_c2 ho) hj2.2.1 hj2.2.2
          have hlt : x < v5 → j + v - 1 < j2 := by
            intro t
            by_cases t2 : j + v - 1 < j2
            · exact t2
            · have := okB_mono ho (i := j2) (k := j + v - 1) (by omega) (by omega) (by omega)
              rw [hj2.2.1, hrun.2] at this
              omega
          have heq : x = v5 → j2 = j := by
            intro t
            subst t
            exact isF_u hj2 hj
          by_cases t : v7 ≤ cnt c v5 nb
          · have hrun2 := okB_run ho hj2 (v := v7) (by omega)
            have e6 := f0_findY (n := nb) (v := v7) ⟨hnb, hj21⟩ (by omega) (okB_c2 ho) hj2.2.1 hj2.2.2 (by omega)
            by_cases s : j + v - 1 ≤ j2 + v7 - 1
            · have e7 := r6v_Y (T := S) (n := n) (p := p7) (ns := p5 + 1) (u := I (j + v - 1)) (by omega) (by omega) e6 s
              have hC : r6d (cz S) (I n) (cz c) (I nb) (I x) (I (j + v - 1)) (I p) (I (-1)) = pX6_read_j66 (cz S) (I n) (cz c) (I nb) (I (j + v - 1)) (I (j2 + v7 - 1)) (I p7) (I (-1)) (I v7) (I (p5 + 1)) := obind (obind e1 (obind e2 ((if_neg (by first | decide | (dsimp only; decide))).trans (obind e3 (obind e4 (obind e5 e7)))))) rfl
              have g9 : (if I (cnt c v5 nb) < I v7 then pX10_readReference_j226 (cz W) (I n) (cz S2) (I p7) (I 1) (I (p5 + 1)) (I (j + v - 1)) (I (j + v - 1)) (I b) (I v5) (I v7) else if I x < I v5 then pX10_readReference_j222 (cz W) (I n) (cz S2) (I p7) (I 1) (I (p5 + 1)) (I (j + v - 1)) (I (j + v - 1)) (I b) (I v5) (I v7) else if I v7 < I v then pX10_readReference_j226 (cz W) (I n) (cz S2) (I p7) (I 1) (I (p5 + 1)) (I (j + v - 1)) (I (j + v - 1)) (I b) (I v5) (I v7) else pX10_readReference_j222 (cz W) (I n) (cz S2) (I p7) (I 1) (I (p5 + 1)) (I (j + v - 1)) (I (j + v - 1)) (I b) (I v5) (I v7)) = pX10_readReference_j319 (cz W) (I n) (cz S2) (I p7) (I 1) (I (p5 + 1)) (I (j + v - 1)) (I (j2 + v7 - 1)) := by
                rw [if_neg (fun h => by rw [I_lt (by omega)] at h; omega)]
                by_cases s2 : x < v5
                · rw [if_pos (by rw [I_lt (by omega)]; exact s2)]
                  exact r10_227Y g8
                · have := heq (by omega)
                  rw [if_neg (fun h => by rw [I_lt (by omega)] at h; omega), if_neg (fun h => by rw [I_lt (by omega)] at h; omega)]
                  exact r10_227Y g8
              have hR : r10e (cz W) (I n) (cz S2) (I (j + v - 1)) (I b) (I x) (I v) (I p) (I 1) = pX10_readReference_j319 (cz W) (I n) (cz S2) (I p7) (I 1) (I (p5 + 1)) (I (j + v - 1)) (I (j2 + v7 - 1)) := obind g1 ((if_neg (by first | decide | (dsimp only; decide))).trans (obind g2 ((if_neg (by first | decide | (dsimp only; decide))).trans ((if_pos (k362 hb)).trans (obind g3 (obind g4 (obind g5 (obind g6 ((if_neg (by first | decide | (dsimp only; decide))).trans (obind g7 g9))))))))))
              rw [hC, hR]
              exact two_end hn (by omega) (by omega)
            · have e7 := r6v_N (T := S) (n := n) (p := p7) (ns := p5 + 1) (u := I (j + v - 1)) (by omega) (by omega) e6 s
              have s2 : ¬ x < v5 := fun h => by have := hlt h; omega
              have s3 := heq (by omega)
              have g9 : (if I (cnt c v5 nb) < I v7 then pX10_readReference_j226 (cz W) (I n) (cz S2) (I p7) (I 1) (I (p5 + 1)) (I (j + v - 1)) (I (j + v - 1)) (I b) (I v5) (I v7) else if I x < I v5 then pX10_readReference_j222 (cz W) (I n) (cz S2) (I p7) (I 1) (I (p5 + 1)) (I (j + v - 1)) (I (j + v - 1)) (I b) (I v5) (I v7) else if I v7 < I v then pX10_readReference_j226 (cz W) (I n) (cz S2) (I p7) (I 1) (I (p5 + 1)) (I (j + v - 1)) (I (j + v - 1)) (I b) (I v5) (I v7) else pX10_readReference_j222 (cz W) (I n) (cz S2) (I p7) (I 1) (I (p5 + 1)) (I (j + v - 1)) (I (j + v - 1)) (I b) (I v5) (I v7)) = some (I (p5 + 1), I 0, I (p5 + 1), I (j + v - 1), (-5 : Int32)) := by
                rw [if_neg (fun h => by rw [I_lt (by omega)] at h; omega), if_neg (fun h => by rw [I_lt (by omega)] at h; omega), if_pos (by rw [I_lt (by omega)]; omega)]
                exact r10_227N
              exact two.bad ⟨_, _, _, _, _, _, obind (obind e1 (obind e2 ((if_neg (by first | decide | (dsimp only; decide))).trans (obind e3 (obind e4 (obind e5 e7)))))) (f6_j66B hn (by omega) (by omega))⟩ (by omega) (obind g1 ((if_neg (by first | decide | (dsimp only; decide))).trans (obind g2 ((if_neg (by first | decide | (dsimp only; decide))).trans ((if_pos (k362 hb)).trans (obind g3 (obind g4 (obind g5 (obind g6 ((if_neg (by first | decide | (dsimp only; decide))).trans (obind g7 g9)))))))))))
          · have e6 := f0_findN (n := nb) (x := v5) (v := v7) hnb (by omega) (okB_c2 ho) (by omega)
            have e7 := r6v_N (T := S) (n := n) (p := p7) (ns := p5 + 1) (u := I (j + v - 1)) (first := j + v - 1) (by omega) (by omega) e6 (by omega)
            have s2 : I (cnt c v5 nb) < I v7 := by rw [I_lt (by omega)]; omega
            exact two.bad ⟨_, _, _, _, _, _, obind (obind e1 (obind e2 ((if_neg (by first | decide | (dsimp only; decide))).trans (obind e3 (obind e4 (obind e5 e7)))))) (f6_j66B hn (by omega) (by omega))⟩ (by omega) (obind g1 ((if_neg (by first | decide | (dsimp only; decide))).trans (obind g2 ((if_neg (by first | decide | (dsimp only; decide))).trans ((if_pos (k362 hb)).trans (obind g3 (obind g4 (obind g5 (obind g6 ((if_neg (by first | decide | (dsimp only; decide))).trans (obind g7 ((if_pos s2).trans r10_227N))))))))))))
        · have hf7 : f7 = p7 := by omega
          rw [hf7] at e5
          rw [if_neg z7] at g6
          obtain ⟨r, e7⟩ := f6_j35B (T := S) (n := n) (f := p7) (v := v7) (p := p7) (ns := p5 + 1) (x := v5) (least := j + v - 1) (u := I (j + v - 1)) ho (by omega) (by omega) (by omega)
          exact two.bad ⟨_, _, _, _, _, _, obind (obind e1 (obind e2 ((if_neg (by first | decide | (dsimp only; decide))).trans (obind e3 (obind e4 (obind e5 e7)))))) (f6_j66B hn (by omega) (by omega))⟩ (by omega) (obind g1 ((if_neg (by first | decide | (dsimp only; decide))).trans (obind g2 ((if_neg (by first | decide | (dsimp only; decide))).trans ((if_pos (k362 hb)).trans (obind g3 (obind g4 (obind g5 (obind g6 ((if_pos (by first | decide | rfl)).trans r10_j227B))))))))))
      · have e3 : pX6_lookAtChapter (I (-1)) (I v5) (I p) (cz c) (I nb) (I x) = some (I v5, I p) := (f6_chap hnb hd (by omega) (by omega) (by omega)).trans (by rw [if_neg u, flt_1])
        have g3 : pX10_in (I v5) (I x) ((cz W) ((362 : Int32) + I b).toNatClampNeg) = some (I 0) := by rw [t362 hb rb.2.1, f10_in (by omega), if_neg u]
        have g4 : pX10_needs (I p5) (I 1) (I p) (I 0) = some (I p, I 0) := f10_needs (x := 0) (by omega)
        have e4 : pX8_skip (cz S) (I n) (I p5) (I p) (58 : Int32) = some (I p5, I p) := f8_skipB (c := 58) (by omega) hT.s
        have g5 : pX10_sign (I n) (cz S2) (I p) (I 0) (58 : Int32) = some (I p, I 0) := f10_signB
        obtain ⟨p7, v7, hp7, hv7, e5⟩ := f8_readNumberB (S := S) (p := p5) (f := p) ⟨hn, by omega, by omega⟩ hT.s
        obtain ⟨r, e7⟩ := f6_j35B (T := S) (n := n) (f := p) (v := v7) (p := p7) (ns := p5) (x := v5) (least := j + v - 1) (u := I (j + v - 1)) ho (by omega) (by omega) (by omega)
        exact two.bad ⟨_, _, _, _, _, _, obind (obind e1 (obind e2 ((if_neg (by first | decide | (dsimp only; decide))).trans (obind e3 (obind e4 (obind e5 e7)))))) (f6_j66B hn (by omega) (by omega))⟩ (by omega) (obind g1 ((if_neg (by first | decide | (dsimp only; decide))).trans (obind g2 ((if_neg (by first | decide | (dsimp only; decide))).trans ((if_pos (k362 hb)).trans (obind g3 (obind g4 (obind g5 (obind f10_numberB ((if_pos (by first | decide | rfl)).trans r10_j227B))))))))))
    · have e2 : pX8_stands (cz S) (I n) (I p5) (I (-1)) (58 : Int32) = some (I 0) := (f8_stands (c := 58) (by omega) hT.s).trans (by rw [if_neg (fun h => y h.2)])
      have g2 : pX10_isAt (I n) (cz S2) (I p5) (58 : Int32) (58 : Int32) = some (I 0) := (f10_isAt hT (x := 58) (y := 58) (by omega) (by omega) (by omega)).trans (by rw [if_neg (by omega)])
      have g7 := f10_versesOf (b := b) (x := x) ⟨hb, hnb⟩ (by omega) rb (okB_c2 ho)
      have g8 := f10_firstOf ⟨hb, hnb, hj1⟩ (by omega) rb (okB_c2 ho) hj.2.1 hj.2.2
      have g9 := f10_in (v := v5) (lo := v) (hi := cnt c x nb) (by omega)
      by_cases t : v5 ≤ cnt c x nb
      · have hrun2 := okB_run ho hj (v := v5) (by omega)
        have e6 := f0_findY (n := nb) (v := v5) ⟨hnb, hj1⟩ (by omega) (okB_c2 ho) hj.2.1 hj.2.2 (by omega)
        by_cases s : v ≤ v5
        · rw [if_pos ⟨s, t⟩] at g9
          have e7 := r6v_Y (T := S) (n := n) (p := p5) (ns := p) (u := I (j + v - 1)) (first := j + v - 1) (by omega) (by omega) e6 (by omega)
          have hC : r6d (cz S) (I n) (cz c) (I nb) (I x) (I (j + v - 1)) (I p) (I (-1)) = pX6_read_j66 (cz S) (I n) (cz c) (I nb) (I (j + v - 1)) (I (j + v5 - 1)) (I p5) (I (-1)) (I v5) (I p) := obind (obind e1 (obind e2 ((if_pos (by first | decide | rfl)).trans e7))) rfl
          have hR : r10e (cz W) (I n) (cz S2) (I (j + v - 1)) (I b) (I x) (I v) (I p) (I 1) = pX10_readReference_j319 (cz W) (I n) (cz S2) (I p5) (I 1) (I p) (I (j + v - 1)) (I (j + v5 - 1)) := obind g1 ((if_neg (by first | decide | (dsimp only; decide))).trans (obind g2 ((if_pos (by first | decide | rfl)).trans ((if_neg (by first | decide | (dsimp only; decide))).trans (obind g7 (obind g9 ((if_neg (by first | decide | (dsimp only; decide))).trans (r10_289Y g8))))))))
          rw [hC, hR]
          exact two_end hn (by omega) (by omega)
        · rw [if_neg (fun h => s h.1)] at g9
          have e7 := r6v_N (T := S) (n := n) (p := p5) (ns := p) (u := I (j + v - 1)) (first := j + v - 1) (by omega) (by omega) e6 (by omega)
          exact two.bad ⟨_, _, _, _, _, _, obind (obind e1 (obind e2 ((if_pos (by first | decide | rfl)).trans e7))) (f6_j66B hn (by omega) (by omega))⟩ (by omega) (obind g1 ((if_neg (by first | decide | (dsimp only; decide))).trans (obind g2 ((if_pos (by first | decide | rfl)).trans ((if_neg (by first | decide | (dsimp only; decide))).trans (obind g7 (obind g9 ((if_pos (by first | decide | rfl)).trans r10_289N))))))))
      · rw [if_neg (fun h => t h.2)] at g9
        have e6 := f0_findN (n := nb) (x := x) (v := v5) hnb (by omega) (okB_c2 ho) (by omega)
        have e7 := r6v_N (T := S) (n := n) (p := p5) (ns := p) (u := I (j + v - 1)) (first := j + v - 1) (by omega) (by omega) e6 (by omega)
        exact two.bad ⟨_, _, _, _, _, _, obind (obind e1 (obind e2 ((if_pos (by first | decide | rfl)).trans e7))) (f6_j66B hn (by omega) (by omega))⟩ (by omega) (obind g1 ((if_neg (by first | decide | (dsimp only; decide))).trans (obind g2 ((if_pos (by first | decide | rfl)).trans ((if_neg (by first | decide | (dsimp only; decide))).trans (obind g7 (obind g9 ((if_pos (by first | decide | rfl)).trans r10_289N))))))))
  · have hf5 : f5 = p5 := by omega
    rw [hf5] at e1
    rw [if_neg z5] at g1
    have e2 : pX8_stands (cz S) (I n) (I p5) (I p5) (58 : Int32) = some (I 0) := f8_standsB (c := 58) (by omega) hT.s
    obtain ⟨r, e7⟩ := f6_j35B (T := S) (n := n) (f := p5) (v := v5) (p := p5) (ns := p) (x := x) (least := j + v - 1) (u := I (j + v - 1)) ho (by omega) (by omega) (by omega)
    exact two.bad ⟨_, _, _, _, _, _, obind (obind e1 (obind e2 ((if_pos (by first | decide | rfl)).trans e7))) (f6_j66B hn (by omega) (by omega))⟩ (by omega) (obind g1 ((if_pos (by first | decide | rfl)).trans r10_j261B))
