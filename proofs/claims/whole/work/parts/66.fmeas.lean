-- what stands beside the verses from fi to la: both sides alike
theorem f5_takeOther {oF oL oV a s : Int} (h : (-100000 ≤ oV ∧ oV ≤ 100000) ∧ (-100000 ≤ a ∧ a ≤ 100000) ∧ 0 ≤ s ∧ s ≤ 100000) : pX5_takeOther (I oF) (I oL) (I oV) (I a) (I (a + s)) = some (I (if s = 0 then oF else if oV = 0 then a else oF), I (if s = 0 then oL else a + s - 1), I (oV + s)) := by
  unfold pX5_takeOther pX5_takeOther_j18
  by_cases z : s = 0
  · subst z
    rw [if_pos (by rw [Int.add_zero]), if_pos rfl, if_pos rfl, Int.add_zero]
  · rw [if_neg (fun t => z (by rw [I_eq (by omega)] at t; omega)), if_neg z, if_neg z]
    by_cases z2 : oV = 0
    · simp (disch := omega) only [if_true, if_false, I_add, I_sub, I_mul, I_neg, I_ofNat, Option.bind_some, kIn, I_l0, I_l1, I_l2, I_l3, I_l4, I_l5, I_l6, I_l8, I_l9, I_l10, I_l11, I_l32, I_l40, I_l43, I_l44, I_l45, I_l48, I_l49, I_l57, I_l58, I_l60, I_l61, I_l62, I_l79, I_l80, I_l100, I_l120, I_l180, I_l200, I_l240, I_l300, I_l360, I_l361, I_l362, I_l363, I_l364, I_l365, I_l485, I_l605, I_l1999, I_l2000, I_le, I_lt, I_eq, I_toInt, cz_at, cz_up, if_pos, if_neg]
      rw [show oV + (a + s - a) = oV + s by omega]
    · simp (disch := omega) only [if_true, if_false, I_add, I_sub, I_mul, I_neg, I_ofNat, Option.bind_some, kIn, I_l0, I_l1, I_l2, I_l3, I_l4, I_l5, I_l6, I_l8, I_l9, I_l10, I_l11, I_l32, I_l40, I_l43, I_l44, I_l45, I_l48, I_l49, I_l57, I_l58, I_l60, I_l61, I_l62, I_l79, I_l80, I_l100, I_l120, I_l180, I_l200, I_l240, I_l300, I_l360, I_l361, I_l362, I_l363, I_l364, I_l365, I_l485, I_l605, I_l1999, I_l2000, I_le, I_lt, I_eq, I_toInt, cz_at, cz_up, if_pos, if_neg]
      rw [show oV + (a + s - a) = oV + s by omega]
def prp (y fi la E2 E3 E4 E5 E6 : Int) : Int := if y = 0 then fi else if y = 1 then la else if y = 2 then E3 else if y = 3 then E4 else if y = 4 then E2 else if y = 5 then E5 else if E6 = la - fi + 1 then 1 else 0
theorem f5_property {y fi la E2 E3 E4 E5 E6 : Int} (hy : 0 ≤ y ∧ y ≤ 6) (h : (-100000 ≤ fi ∧ fi ≤ 100000) ∧ (-100000 ≤ la ∧ la ≤ 100000) ∧ -100000 ≤ E6 ∧ E6 ≤ 100000) : pX5_property (I fi) (I la) (I E2) (I E3) (I E4) (I E5) (I E6) (I y) = some (I (prp y fi la E2 E3 E4 E5 E6)) := by
  unfold pX5_property prp
  simp (disch := omega) only [if_true, if_false, I_add, I_sub, I_mul, I_neg, I_ofNat, Option.bind_some, kIn, I_l0, I_l1, I_l2, I_l3, I_l4, I_l5, I_l6, I_l8, I_l9, I_l10, I_l11, I_l32, I_l40, I_l43, I_l44, I_l45, I_l48, I_l49, I_l57, I_l58, I_l60, I_l61, I_l62, I_l79, I_l80, I_l100, I_l120, I_l180, I_l200, I_l240, I_l300, I_l360, I_l361, I_l362, I_l363, I_l364, I_l365, I_l485, I_l605, I_l1999, I_l2000, I_eq]
  by_cases y0 : y = 0
  · rw [if_pos y0, if_pos y0]
  · rw [if_neg y0, if_neg y0]
    by_cases y1 : y = 1
    · rw [if_pos y1, if_pos y1]
    · rw [if_neg y1, if_neg y1]
      by_cases y2 : y = 2
      · rw [if_pos y2, if_pos y2]
      · rw [if_neg y2, if_neg y2]
        by_cases y3 : y = 3
        · rw [if_pos y3, if_pos y3]
        · rw [if_neg y3, if_neg y3]
          by_cases y4 : y = 4
          · rw [if_pos y4, if_pos y4]
          · rw [if_neg y4, if_neg y4]
            by_cases y5 : y = 5
            · rw [if_pos y5, if_pos y5]
            · rw [if_neg y5, if_neg y5]
              by_cases y6 : E6 = la - fi + 1
              · rw [if_pos y6, if_pos y6]
              · rw [if_neg y6, if_neg y6]
theorem r10_274 {D T : Nat → Int32} {n c5 c6 c7 c13 c14 : Int32} {y fi la E2 E3 E4 E5 E6 : Int} (hy : 2 ≤ y ∧ y ≤ 6) : pX10_refer_j274 D n T c5 c6 c7 c13 c14 (I y) (I E3) (I E4) (I E2) (I E5) (I (if E6 = la - fi + 1 then 1 else 0)) = some (I (prp y fi la E2 E3 E4 E5 E6), c5, c6, c7, c13, c14) := by
  unfold pX10_refer_j274 prp
  rw [if_neg (by omega : ¬ y = 0), if_neg (by omega : ¬ y = 1)]
  simp (disch := omega) only [if_true, if_false, I_add, I_sub, I_mul, I_neg, I_ofNat, Option.bind_some, kIn, I_l0, I_l1, I_l2, I_l3, I_l4, I_l5, I_l6, I_l8, I_l9, I_l10, I_l11, I_l32, I_l40, I_l43, I_l44, I_l45, I_l48, I_l49, I_l57, I_l58, I_l60, I_l61, I_l62, I_l79, I_l80, I_l100, I_l120, I_l180, I_l200, I_l240, I_l300, I_l360, I_l361, I_l362, I_l363, I_l364, I_l365, I_l485, I_l605, I_l1999, I_l2000, I_eq]
  by_cases y2 : y = 2
  · rw [if_pos y2, if_pos y2]
  · rw [if_neg y2, if_neg y2]
    by_cases y3 : y = 3
    · rw [if_pos y3, if_pos y3]
    · rw [if_neg y3, if_neg y3]
      by_cases y4 : y = 4
      · rw [if_pos y4, if_pos y4]
      · rw [if_neg y4, if_neg y4]
        by_cases y5 : y = 5
        · rw [if_pos y5, if_pos y5]
        · rw [if_neg y5, if_neg y5]
          by_cases y6 : E6 = la - fi + 1
          · rw [if_pos y6]
            exact if_neg (by first | decide | (dsimp only; decide))
          · rw [if_neg y6]
            exact if_pos (by first | decide | rfl)
theorem f5_meas {W L R : Int → Int} {g b fi la y : Int} {D : Int32} {T : Nat → Int32} {c5 c6 c7 : Int32} (hg : 0 ≤ g ∧ g ≤ 120) (hb : 0 ≤ b ∧ b ≤ 1) (rm : rM W g L R) (hF : ∀ k, 0 ≤ k → k < g → 0 ≤ sel b L R k ∧ 0 ≤ sel (1 - b) L R k) (hO : ∀ k, 0 ≤ k → k ≤ g → 0 ≤ Sm (sel b L R) k ∧ Sm (sel b L R) k ≤ 60 ∧ 0 ≤ Sm (sel (1 - b) L R) k ∧ Sm (sel (1 - b) L R) k ≤ 60) (hfl : (0 ≤ fi ∧ fi ≤ 1000) ∧ 0 ≤ la ∧ la ≤ 1000) : ∀ (m : Nat) (k ow ot e2 e3 e4 e5 e6 : Int), 0 ≤ k → k ≤ g → g - k < m → ow = Sm (sel b L R) k → ot = Sm (sel (1 - b) L R) k → (0 ≤ e2 ∧ e2 ≤ k) → (0 ≤ e5 ∧ e5 ≤ ot) → (0 ≤ e6 ∧ e6 ≤ ow) → ((e5 = 0 ∧ e3 = -5) ∨ (0 < e5 ∧ 0 ≤ e3 ∧ e3 ≤ 60)) → ∃ E2 E3 E4 E5 E6 : Int, (0 ≤ E6 ∧ E6 ≤ 60) ∧ pX5_measure_L47 (cz L) (cz R) (I g) m (I fi) (I la) (I e2) (I e3) (I e4) (I e5) (I e6) (I b) (I fi) (I la) (I ow) (I ot) (I k) = some (I fi, I la, I E2, I E3, I E4, I E5, I E6) ∧ pX10_refer_L82 (cz W) D T m c5 c6 c7 (I fi) (I la) (I b) (I y) (I e3) (I e4) (I e2) (I e5) (I e6) (I k) = pX10_refer_j274 (cz W) D T c5 c6 c7 (I fi) (I la) (I y) (I E3) (I E4) (I E2) (I E5) (I (if E6 = la - fi + 1 then 1 else 0)) := by
  intro m
  induction m with
  | zero => intro k ow ot e2 e3 e4 e5 e6 h0 h1 h2; omega
  | succ m ih =>
    intro k ow ot e2 e3 e4 e5 e6 h0 h1 h2 how hot b2 b5 b6 b3
    have a1 := hO k h0 h1
    rw [← how, ← hot] at a1
    have r1 : pX10_groups (cz W) = some (I g) := by rw [f10_groups, rm.1]
    by_cases z : k = g
    · have z1 : I g ≤ I k := by rw [I_le (by omega)]; omega
      refine ⟨e2, e3, e4, e5, e6, by omega, if_pos z1, ?_⟩
      have e : I la - I fi + (1 : Int32) = I (la - fi + 1) := by simp only [if_true, if_false, I_add, I_sub, I_mul, I_neg, I_ofNat, Option.bind_some, kIn, I_l0, I_l1, I_l2, I_l3, I_l4, I_l5, I_l6, I_l8, I_l9, I_l10, I_l11, I_l32, I_l40, I_l43, I_l44, I_l45, I_l48, I_l49, I_l57, I_l58, I_l60, I_l61, I_l62, I_l79, I_l80, I_l100, I_l120, I_l180, I_l200, I_l240, I_l300, I_l360, I_l361, I_l362, I_l363, I_l364, I_l365, I_l485, I_l605, I_l1999, I_l2000]
      show pX10_refer_bL82 _ _ _ _ _ _ _ _ _ _ _ _ _ _ _ _ _ = _
      refine obind r1 ((if_pos z1).trans ?_)
      rw [e]
      by_cases z6 : e6 = la - fi + 1
      · rw [if_pos z6]
        exact if_pos (by rw [z6])
      · rw [if_neg z6]
        exact if_neg (fun t => z6 (by rw [I_eq (by omega)] at t; exact t))
    · have hf := hF k h0 (by omega)
      have a2 := hO (k + 1) (by omega) (by omega)
      have s1 : Sm (sel b L R) (k + 1) = Sm (sel b L R) k + sel b L R k := Sm_s h0
      have s2 : Sm (sel (1 - b) L R) (k + 1) = Sm (sel (1 - b) L R) k + sel (1 - b) L R k := Sm_s h0
      have c1 := f1_sizeIn (L := L) (R := R) (g := g) (a := k) (b := b) (by omega)
      have c2 := f1_sizeIn (L := L) (R := R) (g := g) (a := k) (b := 1 - b) (by omega)
      have c3 : pX9_otherBook (I b) = some (I (1 - b)) := by
        rw [f9_otherBook (by omega)]
        obtain rfl | rfl : b = 0 ∨ b = 1 := by omega
        · rfl
        · rfl
      have r2 := f10_firstIn (b := b) (e := k) ⟨hg, hb, h0, h1⟩ rm
      have r3 := f10_firstIn (b := 1 - b) (e := k) ⟨hg, by omega, h0, h1⟩ rm
      have r4 := f10_has (a := k) (b := b) ⟨hg, by omega, hb⟩ rm
      have r5 := f10_has (a := k) (b := 1 - b) ⟨hg, by omega, by omega⟩ rm
      rw [← how] at r2
      rw [← hot] at r3
      generalize hx : sel b L R k = x at *
      generalize hw : sel (1 - b) L R k = w at *
      by_cases q : 0 < x ∧ ow ≤ la ∧ fi < ow + x
      · by_cases q2 : w = 0
        · obtain ⟨E2, E3, E4, E5, E6, hE, hC, hR⟩ := ih (k + 1) (ow + x) (ot + w) (e2 + 1) e3 e4 (e5 + w) (e6 + x) (by omega) (by omega) (by omega) (by omega) (by omega) (by omega) (by omega) (by omega) (by omega)
          refine ⟨E2, E3, E4, E5, E6, hE, ?_, ?_⟩
          · show pX5_measure_bL47 _ _ _ _ _ _ _ _ _ _ _ _ _ _ _ _ _ = _
            have t := f5_takeOther (oF := e3) (oL := e4) (oV := e5) (a := ot) (s := w) (by omega)
            rw [if_pos q2, if_pos q2] at t
            unfold pX5_measure_bL47 pX5_measure_j135
            simp (disch := omega) only [if_true, if_false, I_add, I_sub, I_mul, I_neg, I_ofNat, Option.bind_some, kIn, I_l0, I_l1, I_l2, I_l3, I_l4, I_l5, I_l6, I_l8, I_l9, I_l10, I_l11, I_l32, I_l40, I_l43, I_l44, I_l45, I_l48, I_l49, I_l57, I_l58, I_l60, I_l61, I_l62, I_l79, I_l80, I_l100, I_l120, I_l180, I_l200, I_l240, I_l300, I_l360, I_l361, I_l362, I_l363, I_l364, I_l365, I_l485, I_l605, I_l1999, I_l2000, I_le, I_lt, if_pos, if_neg, c1, c2, c3, t]
            rw [show e6 + (ow + x - ow) = e6 + x by omega]
            exact hC
          · show pX10_refer_bL82 _ _ _ _ _ _ _ _ _ _ _ _ _ _ _ _ _ = _
            unfold pX10_refer_bL82 pX10_refer_j140 pX10_refer_j141 pX10_refer_j205 pX10_refer_j206 pX10_refer_j245 pX10_refer_j247
            by_cases q3 : 0 ≤ e3
            · simp (disch := omega) only [if_true, if_false, I_add, I_sub, I_mul, I_neg, I_ofNat, Option.bind_some, kIn, I_l0, I_l1, I_l2, I_l3, I_l4, I_l5, I_l6, I_l8, I_l9, I_l10, I_l11, I_l32, I_l40, I_l43, I_l44, I_l45, I_l48, I_l49, I_l57, I_l58, I_l60, I_l61, I_l62, I_l79, I_l80, I_l100, I_l120, I_l180, I_l200, I_l240, I_l300, I_l360, I_l361, I_l362, I_l363, I_l364, I_l365, I_l485, I_l605, I_l1999, I_l2000, I_le, I_lt, I_eq, if_pos, if_neg, r1, r2, r3, r4, r5]
              exact hR
            · simp (disch := omega) only [if_true, if_false, I_add, I_sub, I_mul, I_neg, I_ofNat, Option.bind_some, kIn, I_l0, I_l1, I_l2, I_l3, I_l4, I_l5, I_l6, I_l8, I_l9, I_l10, I_l11, I_l32, I_l40, I_l43, I_l44, I_l45, I_l48, I_l49, I_l57, I_l58, I_l60, I_l61, I_l62, I_l79, I_l80, I_l100, I_l120, I_l180, I_l200, I_l240, I_l300, I_l360, I_l361, I_l362, I_l363, I_l364, I_l365, I_l485, I_l605, I_l1999, I_l2000, I_le, I_lt, I_eq, if_pos, if_neg, r1, r2, r3, r4, r5]
              exact hR
        · rcases b3 with b3 | b3
          · obtain ⟨E2, E3, E4, E5, E6, hE, hC, hR⟩ := ih (k + 1) (ow + x) (ot + w) (e2 + 1) ot (ot + w - 1) (e5 + w) (e6 + x) (by omega) (by omega) (by omega) (by omega) (by omega) (by omega) (by omega) (by omega) (by omega)
            refine ⟨E2, E3, E4, E5, E6, hE, ?_, ?_⟩
            · show pX5_measure_bL47 _ _ _ _ _ _ _ _ _ _ _ _ _ _ _ _ _ = _
              have t := f5_takeOther (oF := e3) (oL := e4) (oV := e5) (a := ot) (s := w) (by omega)
              rw [if_neg q2, if_neg q2, if_pos b3.1] at t
              unfold pX5_measure_bL47 pX5_measure_j135
              simp (disch := omega) only [if_true, if_false, I_add, I_sub, I_mul, I_neg, I_ofNat, Option.bind_some, kIn, I_l0, I_l1, I_l2, I_l3, I_l4, I_l5, I_l6, I_l8, I_l9, I_l10, I_l11, I_l32, I_l40, I_l43, I_l44, I_l45, I_l48, I_l49, I_l57, I_l58, I_l60, I_l61, I_l62, I_l79, I_l80, I_l100, I_l120, I_l180, I_l200, I_l240, I_l300, I_l360, I_l361, I_l362, I_l363, I_l364, I_l365, I_l485, I_l605, I_l1999, I_l2000, I_le, I_lt, if_pos, if_neg, c1, c2, c3, t]
              rw [show e6 + (ow + x - ow) = e6 + x by omega]
              exact hC
            · show pX10_refer_bL82 _ _ _ _ _ _ _ _ _ _ _ _ _ _ _ _ _ = _
              unfold pX10_refer_bL82 pX10_refer_j140 pX10_refer_j141 pX10_refer_j205 pX10_refer_j206 pX10_refer_j245 pX10_refer_j247
              simp (disch := omega) only [if_true, if_false, I_add, I_sub, I_mul, I_neg, I_ofNat, Option.bind_some, kIn, I_l0, I_l1, I_l2, I_l3, I_l4, I_l5, I_l6, I_l8, I_l9, I_l10, I_l11, I_l32, I_l40, I_l43, I_l44, I_l45, I_l48, I_l49, I_l57, I_l58, I_l60, I_l61, I_l62, I_l79, I_l80, I_l100, I_l120, I_l180, I_l200, I_l240, I_l300, I_l360, I_l361, I_l362, I_l363, I_l364, I_l365, I_l485, I_l605, I_l1999, I_l2000, I_le, I_lt, I_eq, if_pos, if_neg, r1, r2, r3, r4, r5]
              exact hR
          · obtain ⟨E2, E3, E4, E5, E6, hE, hC, hR⟩ := ih (k + 1) (ow + x) (ot + w) (e2 + 1) e3 (ot + w - 1) (e5 + w) (e6 + x) (by omega) (by omega) (by omega) (by omega) (by omega) (by omega) (by omega) (by omega) (by omega)
            refine ⟨E2, E3, E4, E5, E6, hE, ?_, ?_⟩
            · show pX5_measure_bL47 _ _ _ _ _ _ _ _ _ _ _ _ _ _ _ _ _ = _
              have t := f5_takeOther (oF := e3) (oL := e4) (oV := e5) (a := ot) (s := w) (by omega)
              rw [if_neg q2, if_neg q2, if_neg (by omega)] at t
              unfold pX5_measure_bL47 pX5_measure_j135
              simp (disch := omega) only [if_true, if_false, I_add, I_sub, I_mul, I_neg, I_ofNat, Option.bind_some, kIn, I_l0, I_l1, I_l2, I_l3, I_l4, I_l5, I_l6, I_l8, I_l9, I_l10, I_l11, I_l32, I_l40, I_l43, I_l44, I_l45, I_l48, I_l49, I_l57, I_l58, I_l60, I_l61, I_l62, I_l79, I_l80, I_l100, I_l120, I_l180, I_l200, I_l240, I_l300, I_l360, I_l361, I_l362, I_l363, I_l364, I_l365, I_l485, I_l605, I_l1999, I_l2000, I_le, I_lt, if_pos, if_neg, c1, c2, c3, t]
              rw [show e6 + (ow + x - ow) = e6 + x by omega]
              exact hC
            · show pX10_refer_bL82 _ _ _ _ _ _ _ _ _ _ _ _ _ _ _ _ _ = _
              unfold pX10_refer_bL82 pX10_refer_j140 pX10_refer_j141 pX10_refer_j205 pX10_refer_j206 pX10_refer_j245 pX10_refer_j247
              simp (disch := omega) only [if_true, if_false, I_add, I_sub, I_mul, I_neg, I_ofNat, Option.bind_some, kIn, I_l0, I_l1, I_l2, I_l3, I_l4, I_l5, I_l6, I_l8, I_l9, I_l10, I_l11, I_l32, I_l40, I_l43, I_l44, I_l45, I_l48, I_l49, I_l57, I_l58, I_l60, I_l61, I_l62, I_l79, I_l80, I_l100, I_l120, I_l180, I_l200, I_l240, I_l300, I_l360, I_l361, I_l362, I_l363, I_l364, I_l365, I_l485, I_l605, I_l1999, I_l2000, I_le, I_lt, I_eq, if_pos, if_neg, r1, r2, r3, r4, r5]
              exact hR
      · obtain ⟨E2, E3, E4, E5, E6, hE, hC, hR⟩ := ih (k + 1) (ow + x) (ot + w) e2 e3 e4 e5 e6 (by omega) (by omega) (by omega) (by omega) (by omega) (by omega) (by omega) (by omega) (by omega)
        refine ⟨E2, E3, E4, E5, E6, hE, ?_, ?_⟩
        · show pX5_measure_bL47 _ _ _ _ _ _ _ _ _ _ _ _ _ _ _ _ _ = _
          unfold pX5_measure_bL47 pX5_measure_j135
          by_cases q4 : 0 < x
          · by_cases q5 : ow ≤ la
            · simp (disch := omega) only [if_true, if_false, I_add, I_sub, I_mul, I_neg, I_ofNat, Option.bind_some, kIn, I_l0, I_l1, I_l2, I_l3, I_l4, I_l5, I_l6, I_l8, I_l9, I_l10, I_l11, I_l32, I_l40, I_l43, I_l44, I_l45, I_l48, I_l49, I_l57, I_l58, I_l60, I_l61, I_l62, I_l79, I_l80, I_l100, I_l120, I_l180, I_l200, I_l240, I_l300, I_l360, I_l361, I_l362, I_l363, I_l364, I_l365, I_l485, I_l605, I_l1999, I_l2000, I_le, I_lt, if_pos, if_neg, c1, c2, c3]
              exact hC
            · simp (disch := omega) only [if_true, if_false, I_add, I_sub, I_mul, I_neg, I_ofNat, Option.bind_some, kIn, I_l0, I_l1, I_l2, I_l3, I_l4, I_l5, I_l6, I_l8, I_l9, I_l10, I_l11, I_l32, I_l40, I_l43, I_l44, I_l45, I_l48, I_l49, I_l57, I_l58, I_l60, I_l61, I_l62, I_l79, I_l80, I_l100, I_l120, I_l180, I_l200, I_l240, I_l300, I_l360, I_l361, I_l362, I_l363, I_l364, I_l365, I_l485, I_l605, I_l1999, I_l2000, I_le, I_lt, if_pos, if_neg, c1, c2, c3]
              exact hC
          · simp (disch := omega) only [if_true, if_false, I_add, I_sub, I_mul, I_neg, I_ofNat, Option.bind_some, kIn, I_l0, I_l1, I_l2, I_l3, I_l4, I_l5, I_l6, I_l8, I_l9, I_l10, I_l11, I_l32, I_l40, I_l43, I_l44, I_l45, I_l48, I_l49, I_l57, I_l58, I_l60, I_l61, I_l62, I_l79, I_l80, I_l100, I_l120, I_l180, I_l200, I_l240, I_l300, I_l360, I_l361, I_l362, I_l363, I_l364, I_l365, I_l485, I_l605, I_l1999, I_l2000, I_le, I_lt, if_pos, if_neg, c1, c2, c3]
            exact hC
        · show pX10_refer_bL82 _ _ _ _ _ _ _ _ _ _ _ _ _ _ _ _ _ = _
          unfold pX10_refer_bL82 pX10_refer_j140 pX10_refer_j141 pX10_refer_j247
          by_cases q4 : 0 < x
          · by_cases q5 : ow ≤ la
            · simp (disch := omega) only [if_true, if_false, I_add, I_sub, I_mul, I_neg, I_ofNat, Option.bind_some, kIn, I_l0, I_l1, I_l2, I_l3, I_l4, I_l5, I_l6, I_l8, I_l9, I_l10, I_l11, I_l32, I_l40, I_l43, I_l44, I_l45, I_l48, I_l49, I_l57, I_l58, I_l60, I_l61, I_l62, I_l79, I_l80, I_l100, I_l120, I_l180, I_l200, I_l240, I_l300, I_l360, I_l361, I_l362, I_l363, I_l364, I_l365, I_l485, I_l605, I_l1999, I_l2000, I_le, I_lt, I_eq, if_pos, if_neg, r1, r2, r4]
              exact hR
            · simp (disch := omega) only [if_true, if_false, I_add, I_sub, I_mul, I_neg, I_ofNat, Option.bind_some, kIn, I_l0, I_l1, I_l2, I_l3, I_l4, I_l5, I_l6, I_l8, I_l9, I_l10, I_l11, I_l32, I_l40, I_l43, I_l44, I_l45, I_l48, I_l49, I_l57, I_l58, I_l60, I_l61, I_l62, I_l79, I_l80, I_l100, I_l120, I_l180, I_l200, I_l240, I_l300, I_l360, I_l361, I_l362, I_l363, I_l364, I_l365, I_l485, I_l605, I_l1999, I_l2000, I_le, I_lt, I_eq, if_pos, if_neg, r1, r2, r4]
              exact hR
          · simp (disch := omega) only [if_true, if_false, I_add, I_sub, I_mul, I_neg, I_ofNat, Option.bind_some, kIn, I_l0, I_l1, I_l2, I_l3, I_l4, I_l5, I_l6, I_l8, I_l9, I_l10, I_l11, I_l32, I_l40, I_l43, I_l44, I_l45, I_l48, I_l49, I_l57, I_l58, I_l60, I_l61, I_l62, I_l79, I_l80, I_l100, I_l120, I_l180, I_l200, I_l240, I_l300, I_l360, I_l361, I_l362, I_l363, I_l364, I_l365, I_l485, I_l605, I_l1999, I_l2000, I_le, I_lt, I_eq, if_pos, if_neg, r1, r2, r4]
            exact hR
section REF
variable {W : Int → Int} {vL0 vL1 vL2 : Nat → Int32} {vL3 : Int32} {vR0 vR1 vR2 : Nat → Int32} {vR3 : Int32} {vM0 vM1 : Nat → Int32} {vM2 : Int32} {t0 : Nat → Int32} {t1 d3 : Int32} {d4 : Nat → Int32}
theorem e_refer (hS : rS ((vL0, vL1, vL2, vL3), (vR0, vR1, vR2, vR3), (vM0, vM1, vM2)) W) (hT : rT t0 t1 d3 d4) (t2 t3 t4 t5 u0 u1 x0 x1 x2 x3 x4 x5 x6 d5 d6 d7 d13 d14 i1 i2 : Int32) : ∃ a z2 z3 z4 z5 w0 w1 y0 y1 y2 y3 y4 y5 y6 e5 e6 e7 e13 e14 : Int32, pX9_refer vL0 vL3 vR0 vR3 vM0 vM1 vM2 t0 t1 t2 t3 t4 t5 u0 u1 x0 x1 x2 x3 x4 x5 x6 i1 i2 = some (a, z2, z3, z4, z5, w0, w1, y0, y1, y2, y3, y4, y5, y6) ∧ pX10_refer (cz W) d3 d4 d5 d6 d7 d13 d14 i1 i2 = some (a, e5, e6, e7, e13, e14) := by
  obtain ⟨b, hb, rfl⟩ := I_of i1
  obtain ⟨y, hy, rfl⟩ := I_of i2
  obtain ⟨c0, l0, o0, n0, c1, l1, o1, n1, L, R, g, e, k0, k1, kM, r0, r1, rm⟩ := id hS
  simp only [Prod.mk.injEq] at e
  obtain ⟨⟨rfl, rfl, rfl, rfl⟩, ⟨rfl, rfl, rfl, rfl⟩, rfl, rfl, rfl⟩ := e
  obtain ⟨S, S2, n, rfl, rfl, rfl, rfl, hn, hs⟩ := id hT
  have tX : tx S S2 n := ⟨hn, hs⟩
  have q1 := f9_isBook hb
  have q2 := f10_noBook hb
  by_cases hB : b = 0 ∨ b = 1
  · rw [if_pos hB] at q1 q2
    have q3 := f9_isWithin (v := y) (lo := 0) (hi := 6) (by omega)
    have q4 := f10_in (v := y) (lo := 0) (hi := 6) (by omega)
    by_cases hY : 0 ≤ y ∧ y ≤ 6
    · rw [if_pos hY] at q3 q4
      have b0 := k0.1
      have b1 := k1.1
      have hg := kM.1
      have hF : ∀ k, 0 ≤ k → k < g → 0 ≤ sel b L R k ∧ 0 ≤ sel (1 - b) L R k := by
        intro k p q
        have := kM.2.1 k p q
        obtain rfl | rfl := hB
        · exact ⟨this.1.1, this.2.1.1⟩
        · exact ⟨this.2.1.1, this.1.1⟩
      have hO : ∀ k, 0 ≤ k → k ≤ g → 0 ≤ Sm (sel b L R) k ∧ Sm (sel b L R) k ≤ 60 ∧ 0 ≤ Sm (sel (1 - b) L R) k ∧ Sm (sel (1 - b) L R) k ≤ 60 := by
        intro k p q
        have s1 := Sm_nn (F := sel b L R) p (fun i p2 q2 => (hF i p2 (by omega)).1)
        have s2 := Sm_nn (F := sel (1 - b) L R) p (fun i p2 q2 => (hF i p2 (by omega)).2)
        have s3 := Sm_mono (F := sel b L R) p q (fun i p2 q2 => (hF i (by omega) q2).1)
        have s4 := Sm_mono (F := sel (1 - b) L R) p q (fun i p2 q2 => (hF i (by omega) q2).2)
        have s5 : Sm (sel b L R) g ≤ 60 ∧ Sm (sel (1 - b) L R) g ≤ 60 := by
          have z0 := kM.2.2.1
          have z1 := kM.2.2.2
          obtain rfl | rfl := hB
          · exact ⟨by show Sm L g ≤ 60; omega, by show Sm R g ≤ 60; omega⟩
          · exact ⟨by show Sm R g ≤ 60; omega, by show Sm L g ≤ 60; omega⟩
        omega
      have key : ∀ (cc ll oo : Int → Int) (nn : Int), okB nn cc ll oo → rB W b nn cc ll oo → ∃ a z2 z3 z4 z5 w0 w1 y0 y1 y2 y3 y4 y5 y6 e5 e6 e7 e13 e14 : Int32, ((pX6_read (cz S) (I n) (cz cc) (I nn)).bind fun q8 => if q8.1 = (-1 : Int32) then ((pX5_measure (cz L) (cz R) (I g) (I b) q8.2.1 q8.2.2.1).bind fun q10 => ((pX5_property q10.1 q10.2.1 q10.2.2.1 q10.2.2.2.1 q10.2.2.2.2.1 q10.2.2.2.2.2.1 q10.2.2.2.2.2.2 (I y)).bind fun q12 => some (q12, q8.2.2.2.1, q8.2.2.2.2.1, q8.2.2.2.2.2.1, q8.2.2.2.2.2.2, q8.2.1, q8.2.2.1, q10.1, q10.2.1, q10.2.2.1, q10.2.2.2.1, q10.2.2.2.2.1, q10.2.2.2.2.2.1, q10.2.2.2.2.2.2))) else some (((-100 : Int32) - q8.1), q8.2.2.2.1, q8.2.2.2.2.1, q8.2.2.2.2.2.1, q8.2.2.2.2.2.2, q8.2.1, q8.2.2.1, x0, x1, x2, x3, x4, x5, x6)) = some (a, z2, z3, z4, z5, w0, w1, y0, y1, y2, y3, y4, y5, y6) ∧ pX10_refer (cz W) (I n) (cz S2) d5 d6 d7 d13 d14 (I b) (I y) = some (a, e5, e6, e7, e13, e14) := by
        intro cc ll oo nn ho rb
        have hnn := ho.1
        rcases two_A (c13 := d13) (c14 := d14) (by omega) ho rb tX with ⟨fi, la, a2, a3, a4, a5, q, y7, hf, hC, hR⟩ | ⟨F, a0, a1, a2, a3, a4, a5, y7, a13, a14, hF0, hC, hR⟩
        · obtain ⟨E2, E3, E4, E5, E6, hE, hC2, hR2⟩ := f5_meas (y := y) (D := I n) (T := cz S2) (c5 := q) (c6 := I 1) (c7 := y7) (fi := fi) (la := la) hg (by omega) rm hF hO (by omega) 4000 0 0 0 0 (-5) (-5) 0 0 (by omega) hg.1 (by omega) rfl rfl (by omega) (by omega) (by omega) (by omega)
          have hp := f5_property (y := y) (fi := fi) (la := la) (E2 := E2) (E3 := E3) (E4 := E4) (E5 := E5) (E6 := E6) hY (by omega)
          refine ⟨I (prp y fi la E2 E3 E4 E5 E6), _, _, _, _, _, _, _, _, _, _, _, _, _, q, I 1, y7, I fi, I la, obind hC ((if_pos (by first | decide | rfl)).trans (obind (a := (I fi, I la, I E2, I E3, I E4, I E5, I E6)) hC2 (obind hp rfl))), ?_⟩
          refine obind q2 ((if_pos (by first | decide | rfl)).trans (obind q4 ((if_neg (by first | decide | (dsimp only; decide))).trans (obind hR ((if_neg (by first | decide | (dsimp only; decide))).trans ?_)))))
          by_cases y2 : 2 ≤ y
          · refine (if_pos (by rw [I_l2, I_le (by omega)]; exact y2)).trans ?_
            exact Eq.trans hR2 (r10_274 ⟨y2, hY.2⟩)
          · refine (if_neg (fun t => y2 (by rw [I_l2, I_le (by omega)] at t; exact t))).trans ?_
            by_cases y0 : y = 0
            · subst y0
              exact if_pos (by first | decide | rfl)
            · have y1 : y = 1 := by omega
              subst y1
              exact if_neg (by first | decide | (dsimp only; decide))
        · have hne : ¬ I F = (-1 : Int32) := by
            intro t
            rw [show (-1 : Int32) = I (-1) from rfl, I_eq (by omega)] at t
            omega
          exact ⟨(-100 : Int32) - I F, _, _, _, _, _, _, _, _, _, _, _, _, _, I F, I 0, y7, a13, a14, obind hC (if_neg hne), obind q2 ((if_pos (by first | decide | rfl)).trans (obind q4 ((if_neg (by first | decide | (dsimp only; decide))).trans (obind hR (if_pos (by first | decide | rfl))))))⟩
      by_cases hb0 : b = 0
      · subst hb0
        obtain ⟨a, z2, z3, z4, z5, w0, w1, y0, y1, y2, y3, y4, y5, y6, e5, e6, e7, e13, e14, hC, hR⟩ := key c0 l0 o0 n0 k0 r0
        exact ⟨a, z2, z3, z4, z5, w0, w1, y0, y1, y2, y3, y4, y5, y6, e5, e6, e7, e13, e14, obind q1 ((if_neg (by first | decide | (dsimp only; decide))).trans (obind q3 ((if_neg (by first | decide | (dsimp only; decide))).trans ((if_pos (by first | decide | rfl)).trans hC)))), hR⟩
      · have hb1 : b = 1 := by omega
        subst hb1
        obtain ⟨a, z2, z3, z4, z5, w0, w1, y0, y1, y2, y3, y4, y5, y6, e5, e6, e7, e13, e14, hC, hR⟩ := key c1 l1 o1 n1 k1 r1
        exact ⟨a, z2, z3, z4, z5, w0, w1, y0, y1, y2, y3, y4, y5, y6, e5, e6, e7, e13, e14, obind q1 ((if_neg (by first | decide | (dsimp only; decide))).trans (obind q3 ((if_neg (by first | decide | (dsimp only; decide))).trans ((if_neg (by first | decide | (dsimp only; decide))).trans hC)))), hR⟩
    · rw [if_neg hY] at q3 q4
      exact ⟨I (-2), _, _, _, _, _, _, _, _, _, _, _, _, _, _, _, _, _, _, obind q1 ((if_neg (by first | decide | (dsimp only; decide))).trans (obind q3 (if_pos (by first | decide | rfl)))), obind q2 ((if_pos (by first | decide | rfl)).trans (obind q4 (if_pos (by first | decide | rfl))))⟩
  · rw [if_neg hB] at q1 q2
    exact ⟨I (-1), _, _, _, _, _, _, _, _, _, _, _, _, _, _, _, _, _, _, obind q1 (if_pos (by first | decide | rfl)), obind q2 (if_neg (by first | decide | (dsimp only; decide)))⟩
end REF
