-- both sides add a chapter alike
theorem okB_exf {n v x : Int} {c l o c2 l2 o2 : Int → Int} (h : okB n c l o) (hv : 1 ≤ v ∧ n + v ≤ 60) (hx : 1 ≤ x ∧ x ≤ 2000) (hch : at0 c n (n - 1) + 1 ≤ 10) (hc : ∀ i, 0 ≤ i → i < n + v → c2 i = exf c n (at0 c n (n - 1) + 1) i) (hl : ∀ i, 0 ≤ i → i < n + v → l2 i = exf l n x i) (ho : ∀ i, 0 ≤ i → i < n + v → o2 i = exf o n 0 i) : okB (n + v) c2 l2 o2 := by
  have h0 := h.1
  have hp : (n = 0 ∧ at0 c n (n - 1) = 0) ∨ (0 < n ∧ at0 c n (n - 1) = c (n - 1) ∧ 1 ≤ c (n - 1)) := by
    by_cases z : n = 0
    · exact Or.inl ⟨z, at0_out (by omega)⟩
    · exact Or.inr ⟨by omega, at0_in (by omega), (h.2 (n - 1) (by omega) (by omega)).2.2.1.1⟩
  refine ⟨by omega, fun i a b => ?_⟩
  rw [hc i a b, hl i a b, ho i a b]
  by_cases z : i < n
  · rw [exf_lo z, exf_lo z, exf_lo z]
    obtain ⟨q1, q2, q3, q4, q5⟩ := h.2 i a z
    refine ⟨q1, q2, q3, q4, fun w => ?_⟩
    rw [hc (i + 1) (by omega) w]
    by_cases z2 : i + 1 < n
    · rw [exf_lo z2]; exact q5 z2
    · rw [exf_hi (by omega)]
      have e : i = n - 1 := by omega
      subst e
      rcases hp with ⟨y1, y2⟩ | ⟨y1, y2, y3⟩ <;> omega
  · rw [exf_hi (by omega), exf_hi (by omega), exf_hi (by omega)]
    refine ⟨hx, by omega, ?_, fun w => ?_, fun w => ?_⟩
    · rcases hp with ⟨y1, y2⟩ | ⟨y1, y2, y3⟩ <;> omega
    · rcases hp with ⟨y1, y2⟩ | ⟨y1, y2, y3⟩ <;> omega
    · rw [hc (i + 1) (by omega) w, exf_hi (by omega)]
      omega
theorem okM_exf {g m n v a b m2 n2 : Int} {L R A B : Int → Int} (h : okM g L R m n) (hv : 0 ≤ v) (hab : (a = 1 ∧ b = 0 ∧ m2 = m + v ∧ n2 = n) ∨ (a = 0 ∧ b = 1 ∧ m2 = m ∧ n2 = n + v)) (hmn : m2 ≤ 60 ∧ n2 ≤ 60) (hA : ∀ i, 0 ≤ i → i < g + v → A i = exf L g a i) (hB : ∀ i, 0 ≤ i → i < g + v → B i = exf R g b i) : okM (g + v) A B m2 n2 := by
  have h0 := h.1
  have e1 : Sm A (g + v) = Sm (exf L g a) (g + v) := Sm_congr (by omega) hA
  have e2 : Sm B (g + v) = Sm (exf R g b) (g + v) := Sm_congr (by omega) hB
  rw [Sm_exf h0.1 hv, h.2.2.1] at e1
  rw [Sm_exf h0.1 hv, h.2.2.2] at e2
  refine okM_mk (by omega) (fun i p q => ?_) (e1.trans ?_) (e2.trans ?_) hmn
  · rw [hA i p q, hB i p q]
    by_cases z : i < g
    · rw [exf_lo z, exf_lo z]
      have := h.2.1 i p z
      omega
    · rw [exf_hi (by omega), exf_hi (by omega)]
      omega
  · rcases hab with ⟨z1, z2, z3, z4⟩ | ⟨z1, z2, z3, z4⟩
    · rw [z1, z3, Int.one_mul]
    · rw [z1, z3, Int.zero_mul, Int.add_zero]
  · rcases hab with ⟨z1, z2, z3, z4⟩ | ⟨z1, z2, z3, z4⟩
    · rw [z2, z4, Int.zero_mul, Int.add_zero]
    · rw [z2, z4, Int.one_mul]
theorem rA_own {X W : Int → Int} {b n g x ch v : Int} {c l o c2 l2 o2 : Int → Int} (hb : 0 ≤ b ∧ b ≤ 1) (hn : 0 ≤ n ∧ 1 ≤ v ∧ n + v ≤ 60) (hg : 0 ≤ g ∧ g + v ≤ 120) (r : rA X W b n g x ch v) (rb : rB W b n c l o) (hc : ∀ i, 0 ≤ i → i < n + v → c2 i = exf c n ch i) (hl : ∀ i, 0 ≤ i → i < n + v → l2 i = exf l n x i) (ho : ∀ i, 0 ≤ i → i < n + v → o2 i = exf o n 0 i) : rB X b (n + v) c2 l2 o2 := by
  obtain ⟨r1, r2, r3, r4, r5, r6⟩ := r
  have hb2 : b = 0 ∨ b = 1 := by omega
  refine ⟨r1, ?_, fun i p q => ?_⟩
  · rw [r2, at0_in (by omega), hc _ (by omega) (by omega), exf_hi (by omega)]
  · rw [hc i p q, hl i p q, ho i p q]
    by_cases z : i < n
    · rw [exf_lo z, exf_lo z, exf_lo z, r6 _ (by omega) (by omega) (by omega) (by omega) (by omega) (by omega) (by omega) (by omega), r6 _ (by omega) (by omega) (by omega) (by omega) (by omega) (by omega) (by omega) (by omega), r6 _ (by omega) (by omega) (by omega) (by omega) (by omega) (by omega) (by omega) (by omega)]
      exact rb.2.2 i p z
    · rw [exf_hi (by omega), exf_hi (by omega), exf_hi (by omega)]
      exact r4 i (by omega) q
theorem rA_oth {X W : Int → Int} {b d n m g x ch v : Int} {c l o : Int → Int} (hb : (b = 0 ∧ d = 1) ∨ (b = 1 ∧ d = 0)) (hn : 0 ≤ n ∧ 1 ≤ v ∧ n + v ≤ 60) (hg : 0 ≤ g ∧ g + v ≤ 120) (hm : m ≤ 60) (r : rA X W b n g x ch v) (rb : rB W d m c l o) : rB X d m c l o := by
  obtain ⟨r1, r2, r3, r4, r5, r6⟩ := r
  refine rb.keep hm (r6 _ (by omega) (by omega) (by omega) (by omega) (by omega) (by omega) (by omega) (by omega)) (r6 _ (by omega) (by omega) (by omega) (by omega) (by omega) (by omega) (by omega) (by omega)) (fun i p q => ⟨r6 _ (by omega) (by omega) (by omega) (by omega) (by omega) (by omega) (by omega) (by omega), r6 _ (by omega) (by omega) (by omega) (by omega) (by omega) (by omega) (by omega) (by omega), r6 _ (by omega) (by omega) (by omega) (by omega) (by omega) (by omega) (by omega) (by omega)⟩)
theorem rA_map {X W : Int → Int} {b n g x ch v : Int} {L R A B : Int → Int} (hb : 0 ≤ b ∧ b ≤ 1) (hn : 0 ≤ n ∧ 1 ≤ v ∧ n + v ≤ 60) (hg : 0 ≤ g ∧ g + v ≤ 120) (r : rA X W b n g x ch v) (rm : rM W g L R) (hA : ∀ i, 0 ≤ i → i < g + v → A i = exf L g (1 - b) i) (hB : ∀ i, 0 ≤ i → i < g + v → B i = exf R g b i) : rM X (g + v) A B := by
  obtain ⟨r1, r2, r3, r4, r5, r6⟩ := r
  refine ⟨r3, fun i p q => ?_⟩
  rw [hA i p q, hB i p q]
  by_cases z : i < g
  · rw [exf_lo z, exf_lo z, r6 _ (by omega) (by omega) (by omega) (by omega) (by omega) (by omega) (by omega) (by omega), r6 _ (by omega) (by omega) (by omega) (by omega) (by omega) (by omega) (by omega) (by omega)]
    exact rm.2 i p z
  · rw [exf_hi (by omega), exf_hi (by omega)]
    exact r5 i (by omega) q
theorem rA_0 {W : Int → Int} {b n g x ch : Int} (hb : 0 ≤ b ∧ b ≤ 1) (w1 : W (360 + b) = n) (w3 : W 364 = g) : rA (up W (362 + b) ch) W b n g x ch 0 := by
  refine ⟨by rw [up_ne (by omega), w1]; omega, up_at rfl, by rw [up_ne (by omega), w3]; omega, fun i p q => by omega, fun i p q => by omega, fun i p1 p2 p3 _ _ _ _ _ => up_ne p2⟩
theorem f10_addChapter {W : Int → Int} {V V2 X2 : Int → Int} {b n v x ch t : Int} {kk : Int32} {k2 : Int} (hb : 0 ≤ b ∧ b ≤ 1) (hv : 1 ≤ v ∧ v ≤ 60) (hx : 1 ≤ x ∧ x ≤ 2000) (hn : 0 ≤ n ∧ n + v ≤ 60) (w1 : W (360 + b) = n) (w2 : W (362 + b) = t) (ht : 0 ≤ t ∧ t < 10) (e2 : pX10_record (cz W) (cz V) kk = some (cz V2, I k2)) (h : pX10_addChapter_L84 4000 (cz (up W (362 + b) (t + 1))) (cz V2) (I k2) (I b) (I v) (I x) (I 0) = some (I ch, cz X2, cz V2, I k2)) : pX10_addChapter (cz W) (cz V) kk (I b) (I v) (I x) = some (I ch, cz X2, cz V2, I k2) := by
  unfold pX10_addChapter
  simp only [if_true, if_false, I_add, I_sub, I_mul, I_neg, I_ofNat, Option.bind_some, kIn, I_l0, I_l1, I_l2, I_l3, I_l4, I_l5, I_l6, I_l8, I_l9, I_l10, I_l11, I_l32, I_l40, I_l43, I_l44, I_l45, I_l48, I_l49, I_l57, I_l58, I_l60, I_l61, I_l62, I_l79, I_l80, I_l100, I_l120, I_l180, I_l200, I_l240, I_l300, I_l360, I_l361, I_l362, I_l363, I_l364, I_l365, I_l485, I_l605, I_l1999, I_l2000]
  rw [f10_noBook (by omega), if_pos (by omega), f10_in (by omega), f10_in (by omega), if_pos hv, if_pos hx, f10_size hb, w1]
  simp (disch := omega) only [if_true, if_false, I_add, I_sub, I_mul, I_neg, I_ofNat, Option.bind_some, kIn, I_l0, I_l1, I_l2, I_l3, I_l4, I_l5, I_l6, I_l8, I_l9, I_l10, I_l11, I_l32, I_l40, I_l43, I_l44, I_l45, I_l48, I_l49, I_l57, I_l58, I_l60, I_l61, I_l62, I_l79, I_l80, I_l100, I_l120, I_l180, I_l200, I_l240, I_l300, I_l360, I_l361, I_l362, I_l363, I_l364, I_l365, I_l485, I_l605, I_l1999, I_l2000, I_le, I_lt, I_eq, I_toInt, cz_at, cz_up, if_pos, if_neg]
  rw [w2]
  exact obind e2 h
theorem f10_addFull {W : Int → Int} {V : Nat → Int32} {b n v x t : Int} {kk : Int32} (hb : 0 ≤ b ∧ b ≤ 1) (hv : 1 ≤ v ∧ v ≤ 60) (hx : 1 ≤ x ∧ x ≤ 2000) (hn : 0 ≤ n ∧ n ≤ 60) (w1 : W (360 + b) = n) (w2 : W (362 + b) = t) (ht : 0 ≤ t ∧ t ≤ 10) (hf : t = 10 ∨ 60 < n + v) : pX10_addChapter (cz W) V kk (I b) (I v) (I x) = some (I (-3), cz W, V, kk) := by
  unfold pX10_addChapter
  simp only [if_true, if_false, I_add, I_sub, I_mul, I_neg, I_ofNat, Option.bind_some, kIn, I_l0, I_l1, I_l2, I_l3, I_l4, I_l5, I_l6, I_l8, I_l9, I_l10, I_l11, I_l32, I_l40, I_l43, I_l44, I_l45, I_l48, I_l49, I_l57, I_l58, I_l60, I_l61, I_l62, I_l79, I_l80, I_l100, I_l120, I_l180, I_l200, I_l240, I_l300, I_l360, I_l361, I_l362, I_l363, I_l364, I_l365, I_l485, I_l605, I_l1999, I_l2000]
  rw [f10_noBook (by omega), if_pos (by omega), f10_in (by omega), f10_in (by omega), if_pos hv, if_pos hx, f10_size hb, w1]
  simp (disch := omega) only [if_true, if_false, I_add, I_sub, I_mul, I_neg, I_ofNat, Option.bind_some, kIn, I_l0, I_l1, I_l2, I_l3, I_l4, I_l5, I_l6, I_l8, I_l9, I_l10, I_l11, I_l32, I_l40, I_l43, I_l44, I_l45, I_l48, I_l49, I_l57, I_l58, I_l60, I_l61, I_l62, I_l79, I_l80, I_l100, I_l120, I_l180, I_l200, I_l240, I_l300, I_l360, I_l361, I_l362, I_l363, I_l364, I_l365, I_l485, I_l605, I_l1999, I_l2000, I_le, I_lt, I_eq, I_toInt, cz_at, cz_up, if_pos, if_neg]
  rw [w2]
  by_cases z : t = 10
  · rw [if_pos z]
  · rw [if_neg z]
section ACT5
variable {k : Int} {s0 s1 s2 s3 s4 : vST} {V W : Int → Int} {vL0 vL1 vL2 : Nat → Int32} {vL3 : Int32} {vR0 vR1 vR2 : Nat → Int32} {vR3 : Int32} {vM0 vM1 : Nat → Int32} {vM2 : Int32}
theorem e_addChapter (hH : rH k s0 s1 s2 s3 s4 V) (hS : rS ((vL0, vL1, vL2, vL3), (vR0, vR1, vR2, vR3), (vM0, vM1, vM2)) W) (i1 i2 i3 : Int32) : ∃ (a : Int32) (x0 x1 x2 : Nat → Int32) (x3 : Int32) (y0 y1 y2 : Nat → Int32) (y3 : Int32) (m0 m1 : Nat → Int32) (m2 : Int32) (k2 : Int) (r : Nat) (t0 t1 t2 t3 t4 : vST) (V2 W2 : Int → Int), pX9_addChapter vL0 vL1 vL2 vL3 vR0 vR1 vR2 vR3 vM0 vM1 vM2 (I k) s0 s1 s2 s3 s4 i1 i2 i3 = some (a, x0, x1, x2, x3, y0, y1, y2, y3, m0, m1, m2, I k2, r, t0, t1, t2, t3, t4) ∧ pX10_addChapter (cz W) (cz V) (I k) i1 i2 i3 = some (a, cz W2, cz V2, I k2) ∧ rS ((x0, x1, x2, x3), (y0, y1, y2, y3), (m0, m1, m2)) W2 ∧ rHr r k2 t0 t1 t2 t3 t4 V2 := by
  obtain ⟨b, hb, rfl⟩ := I_of i1
  obtain ⟨v, hv, rfl⟩ := I_of i2
  obtain ⟨x, hx, rfl⟩ := I_of i3
  obtain ⟨c0, l0, o0, n0, c1, l1, o1, n1, L, R, g, e, k0, k1, kM, r0, r1, rm⟩ := id hS
  simp only [Prod.mk.injEq] at e
  obtain ⟨⟨rfl, rfl, rfl, rfl⟩, ⟨rfl, rfl, rfl, rfl⟩, rfl, rfl, rfl⟩ := e
  have b0 := k0.1
  have b1 := k1.1
  have gg := okM_g kM
  have hg := kM.1
  by_cases q : b = 0 ∨ b = 1
  · by_cases qv : 1 ≤ v ∧ v ≤ 60
    · by_cases qx : 1 ≤ x ∧ x ≤ 2000
      · have T0 := at0_bd (F := c0) (n := n0) (lo := 0) (hi := 10) (fun i p z => by have := (k0.2 i p z).2.2.1; omega) (by omega) (n0 - 1)
        have T1 := at0_bd (F := c1) (n := n1) (lo := 0) (hi := 10) (fun i p z => by have := (k1.2 i p z).2.2.1; omega) (by omega) (n1 - 1)
        rcases q with rfl | rfl
        · by_cases qf : at0 c0 n0 (n0 - 1) = 10 ∨ 60 < n0 + v
          · refine ⟨I (-3), cz c0, cz l0, cz o0, I n0, cz c1, cz l1, cz o1, I n1, cz L, cz R, I g, k, 0, s0, s1, s2, s3, s4, V, W, ?_, f10_addFull (by omega) qv qx b0 r0.1 r0.2.1 T0 qf, hS, Or.inl ⟨rfl, hH⟩⟩
            unfold pX9_addChapter
            simp only [if_true, if_false, I_add, I_sub, I_mul, I_neg, I_ofNat, Option.bind_some, kIn, I_l0, I_l1, I_l2, I_l3, I_l4, I_l5, I_l6, I_l8, I_l9, I_l10, I_l11, I_l32, I_l40, I_l43, I_l44, I_l45, I_l48, I_l49, I_l57, I_l58, I_l60, I_l61, I_l62, I_l79, I_l80, I_l100, I_l120, I_l180, I_l200, I_l240, I_l300, I_l360, I_l361, I_l362, I_l363, I_l364, I_l365, I_l485, I_l605, I_l1999, I_l2000]
            rw [f9_isBook (by omega), if_pos (Or.inl rfl), f9_isWithin (by omega), f9_isWithin (by omega), if_pos qv, if_pos qx, f0_chapterTotal b0]
            simp (disch := omega) only [if_true, if_false, I_add, I_sub, I_mul, I_neg, I_ofNat, Option.bind_some, kIn, I_l0, I_l1, I_l2, I_l3, I_l4, I_l5, I_l6, I_l8, I_l9, I_l10, I_l11, I_l32, I_l40, I_l43, I_l44, I_l45, I_l48, I_l49, I_l57, I_l58, I_l60, I_l61, I_l62, I_l79, I_l80, I_l100, I_l120, I_l180, I_l200, I_l240, I_l300, I_l360, I_l361, I_l362, I_l363, I_l364, I_l365, I_l485, I_l605, I_l1999, I_l2000, I_eq, I_le, I_lt, if_neg, if_true]
            repeat' split
            all_goals first | rfl | (exfalso; omega)
          · obtain ⟨k2, r, t0, t1, t2, t3, t4, V2, hh, e1, e2⟩ := e_record hH hS
            obtain ⟨c2, l2, o2, A2, B2, w1, w2, w3, w4, w5, w6⟩ := f9_add0 (c := c0) (l := l0) (o := o0) (L := L) (R := R) (n := n0) (g := g) (v := v) (x := x) (ch := at0 c0 n0 (n0 - 1) + 1) (u0 := cz c1) (u1 := cz l1) (u2 := cz o1) (u3 := I n1) (hk := I k2) (r := r) (t0 := t0) (t1 := t1) (t2 := t2) (t3 := t3) (t4 := t4) (by omega) (by omega) 4000 c0 l0 o0 L R 0 (by omega) (by omega) (by omega) (fun i p z => (exf_lo (by omega)).symm) (fun i p z => (exf_lo (by omega)).symm) (fun i p z => (exf_lo (by omega)).symm) (fun i p z => (exf_lo (by omega)).symm) (fun i p z => (exf_lo (by omega)).symm)
            obtain ⟨X2, u1, u2⟩ := f10_add84 (W := W) (V := V2) (kk := k2) (b := 0) (n := n0) (g := g) (x := x) (ch := at0 c0 n0 (n0 - 1) + 1) (v := v) (by omega) (by omega) (by omega) 4000 _ 0 (by omega) (by omega) (by omega) (rA_0 (by omega) r0.1 rm.1)
            refine ⟨I (at0 c0 n0 (n0 - 1) + 1), cz c2, cz l2, cz o2, I (n0 + v), cz c1, cz l1, cz o1, I n1, cz A2, cz B2, I (g + v), k2, r, t0, t1, t2, t3, t4, V2, X2, ?_, f10_addChapter (by omega) qv qx (by omega) r0.1 r0.2.1 (by omega) e2 u2, ?_, hh⟩
            · unfold pX9_addChapter
              simp only [if_true, if_false, I_add, I_sub, I_mul, I_neg, I_ofNat, Option.bind_some, kIn, I_l0, I_l1, I_l2, I_l3, I_l4, I_l5, I_l6, I_l8, I_l9, I_l10, I_l11, I_l32, I_l40, I_l43, I_l44, I_l45, I_l48, I_l49, I_l57, I_l58, I_l60, I_l61, I_l62, I_l79, I_l80, I_l100, I_l120, I_l180, I_l200, I_l240, I_l300, I_l360, I_l361, I_l362, I_l363, I_l364, I_l365, I_l485, I_l605, I_l1999, I_l2000]
              rw [f9_isBook (by omega), if_pos (Or.inl rfl), f9_isWithin (by omega), f9_isWithin (by omega), if_pos qv, if_pos qx, f0_chapterTotal b0]
              simp (disch := omega) only [if_true, if_false, I_add, I_sub, I_mul, I_neg, I_ofNat, Option.bind_some, kIn, I_l0, I_l1, I_l2, I_l3, I_l4, I_l5, I_l6, I_l8, I_l9, I_l10, I_l11, I_l32, I_l40, I_l43, I_l44, I_l45, I_l48, I_l49, I_l57, I_l58, I_l60, I_l61, I_l62, I_l79, I_l80, I_l100, I_l120, I_l180, I_l200, I_l240, I_l300, I_l360, I_l361, I_l362, I_l363, I_l364, I_l365, I_l485, I_l605, I_l1999, I_l2000, I_eq, I_le, I_lt, if_neg, if_pos]
              rw [Int.add_zero, Int.add_zero] at w6
              exact obind e1 w6
            · exact ⟨c2, l2, o2, n0 + v, c1, l1, o1, n1, A2, B2, g + v, rfl, okB_exf k0 (by omega) qx (by omega) w1 w2 w3, k1, okM_exf kM (by omega) (Or.inl ⟨rfl, rfl, rfl, rfl⟩) (by omega) w4 w5, rA_own (by omega) (by omega) (by omega) u1 r0 w1 w2 w3, rA_oth (Or.inl ⟨rfl, rfl⟩) (by omega) (by omega) b1.2 u1 r1, rA_map (by omega) (by omega) (by omega) u1 rm w4 w5⟩
        · by_cases qf : at0 c1 n1 (n1 - 1) = 10 ∨ 60 < n1 + v
          · refine ⟨I (-3), cz c0, cz l0, cz o0, I n0, cz c1, cz l1, cz o1, I n1, cz L, cz R, I g, k, 0, s0, s1, s2, s3, s4, V, W, ?_, f10_addFull (by omega) qv qx b1 r1.1 r1.2.1 T1 qf, hS, Or.inl ⟨rfl, hH⟩⟩
            unfold pX9_addChapter
            simp only [if_true, if_false, I_add, I_sub, I_mul, I_neg, I_ofNat, Option.bind_some, kIn, I_l0, I_l1, I_l2, I_l3, I_l4, I_l5, I_l6, I_l8, I_l9, I_l10, I_l11, I_l32, I_l40, I_l43, I_l44, I_l45, I_l48, I_l49, I_l57, I_l58, I_l60, I_l61, I_l62, I_l79, I_l80, I_l100, I_l120, I_l180, I_l200, I_l240, I_l300, I_l360, I_l361, I_l362, I_l363, I_l364, I_l365, I_l485, I_l605, I_l1999, I_l2000]
            rw [f9_isBook (by omega), if_pos (Or.inr rfl), f9_isWithin (by omega), f9_isWithin (by omega), if_pos qv, if_pos qx, f0_chapterTotal b1]
            simp (disch := omega) only [if_true, if_false, I_add, I_sub, I_mul, I_neg, I_ofNat, Option.bind_some, kIn, I_l0, I_l1, I_l2, I_l3, I_l4, I_l5, I_l6, I_l8, I_l9, I_l10, I_l11, I_l32, I_l40, I_l43, I_l44, I_l45, I_l48, I_l49, I_l57, I_l58, I_l60, I_l61, I_l62, I_l79, I_l80, I_l100, I_l120, I_l180, I_l200, I_l240, I_l300, I_l360, I_l361, I_l362, I_l363, I_l364, I_l365, I_l485, I_l605, I_l1999, I_l2000, I_eq, I_le, I_lt, if_neg, if_true]
            repeat' split
            all_goals first | rfl | (exfalso; omega)
          · obtain ⟨k2, r, t0, t1, t2, t3, t4, V2, hh, e1, e2⟩ := e_record hH hS
            obtain ⟨c2, l2, o2, A2, B2, w1, w2, w3, w4, w5, w6⟩ := f9_add1 (c := c1) (l := l1) (o := o1) (L := L) (R := R) (n := n1) (g := g) (v := v) (x := x) (ch := at0 c1 n1 (n1 - 1) + 1) (u0 := cz c0) (u1 := cz l0) (u2 := cz o0) (u3 := I n0) (hk := I k2) (r := r) (t0 := t0) (t1 := t1) (t2 := t2) (t3 := t3) (t4 := t4) (by omega) (by omega) 4000 c1 l1 o1 L R 0 (by omega) (by omega) (by omega) (fun i p z => (exf_lo (by omega)).symm) (fun i p z => (exf_lo (by omega)).symm) (fun i p z => (exf_lo (by omega)).symm) (fun i p z => (exf_lo (by omega)).symm) (fun i p z => (exf_lo (by omega)).symm)
            obtain ⟨X2, u1, u2⟩ := f10_add84 (W := W) (V := V2) (kk := k2) (b := 1) (n := n1) (g := g) (x := x) (ch := at0 c1 n1 (n1 - 1) + 1) (v := v) (by omega) (by omega) (by omega) 4000 _ 0 (by omega) (by omega) (by omega) (rA_0 (by omega) r1.1 rm.1)
            refine ⟨I (at0 c1 n1 (n1 - 1) + 1), cz c0, cz l0, cz o0, I n0, cz c2, cz l2, cz o2, I (n1 + v), cz A2, cz B2, I (g + v), k2, r, t0, t1, t2, t3, t4, V2, X2, ?_, f10_addChapter (by omega) qv qx (by omega) r1.1 r1.2.1 (by omega) e2 u2, ?_, hh⟩
            · unfold pX9_addChapter
              simp only [if_true, if_false, I_add, I_sub, I_mul, I_neg, I_ofNat, Option.bind_some, kIn, I_l0, I_l1, I_l2, I_l3, I_l4, I_l5, I_l6, I_l8, I_l9, I_l10, I_l11, I_l32, I_l40, I_l43, I_l44, I_l45, I_l48, I_l49, I_l57, I_l58, I_l60, I_l61, I_l62, I_l79, I_l80, I_l100, I_l120, I_l180, I_l200, I_l240, I_l300, I_l360, I_l361, I_l362, I_l363, I_l364, I_l365, I_l485, I_l605, I_l1999, I_l2000]
              rw [f9_isBook (by omega), if_pos (Or.inr rfl), f9_isWithin (by omega), f9_isWithin (by omega), if_pos qv, if_pos qx, f0_chapterTotal b1]
              simp (disch := omega) only [if_true, if_false, I_add, I_sub, I_mul, I_neg, I_ofNat, Option.bind_some, kIn, I_l0, I_l1, I_l2, I_l3, I_l4, I_l5, I_l6, I_l8, I_l9, I_l10, I_l11, I_l32, I_l40, I_l43, I_l44, I_l45, I_l48, I_l49, I_l57, I_l58, I_l60, I_l61, I_l62, I_l79, I_l80, I_l100, I_l120, I_l180, I_l200, I_l240, I_l300, I_l360, I_l361, I_l362, I_l363, I_l364, I_l365, I_l485, I_l605, I_l1999, I_l2000, I_eq, I_le, I_lt, if_neg, if_pos]
              rw [Int.add_zero, Int.add_zero] at w6
              exact obind e1 w6
            · exact ⟨c0, l0, o0, n0, c2, l2, o2, n1 + v, A2, B2, g + v, rfl, k0, okB_exf k1 (by omega) qx (by omega) w1 w2 w3, okM_exf kM (by omega) (Or.inr ⟨rfl, rfl, rfl, rfl⟩) (by omega) w4 w5, rA_oth (Or.inr ⟨rfl, rfl⟩) (by omega) (by omega) b0.2 u1 r0, rA_own (by omega) (by omega) (by omega) u1 r1 w1 w2 w3, rA_map (by omega) (by omega) (by omega) u1 rm w4 w5⟩
      · refine ⟨I (-2), cz c0, cz l0, cz o0, I n0, cz c1, cz l1, cz o1, I n1, cz L, cz R, I g, k, 0, s0, s1, s2, s3, s4, V, W, ?_, ?_, hS, Or.inl ⟨rfl, hH⟩⟩
        · unfold pX9_addChapter
          simp only [if_true, if_false, I_add, I_sub, I_mul, I_neg, I_ofNat, Option.bind_some, kIn, I_l0, I_l1, I_l2, I_l3, I_l4, I_l5, I_l6, I_l8, I_l9, I_l10, I_l11, I_l32, I_l40, I_l43, I_l44, I_l45, I_l48, I_l49, I_l57, I_l58, I_l60, I_l61, I_l62, I_l79, I_l80, I_l100, I_l120, I_l180, I_l200, I_l240, I_l300, I_l360, I_l361, I_l362, I_l363, I_l364, I_l365, I_l485, I_l605, I_l1999, I_l2000]
          rw [f9_isBook (by omega), if_pos q, f9_isWithin (by omega), f9_isWithin (by omega), if_pos qv, if_neg qx]
          simp (disch := omega) only [if_true, if_false, I_add, I_sub, I_mul, I_neg, I_ofNat, Option.bind_some, kIn, I_l0, I_l1, I_l2, I_l3, I_l4, I_l5, I_l6, I_l8, I_l9, I_l10, I_l11, I_l32, I_l40, I_l43, I_l44, I_l45, I_l48, I_l49, I_l57, I_l58, I_l60, I_l61, I_l62, I_l79, I_l80, I_l100, I_l120, I_l180, I_l200, I_l240, I_l300, I_l360, I_l361, I_l362, I_l363, I_l364, I_l365, I_l485, I_l605, I_l1999, I_l2000, I_eq, if_neg, if_true]
        · unfold pX10_addChapter
          simp only [if_true, if_false, I_add, I_sub, I_mul, I_neg, I_ofNat, Option.bind_some, kIn, I_l0, I_l1, I_l2, I_l3, I_l4, I_l5, I_l6, I_l8, I_l9, I_l10, I_l11, I_l32, I_l40, I_l43, I_l44, I_l45, I_l48, I_l49, I_l57, I_l58, I_l60, I_l61, I_l62, I_l79, I_l80, I_l100, I_l120, I_l180, I_l200, I_l240, I_l300, I_l360, I_l361, I_l362, I_l363, I_l364, I_l365, I_l485, I_l605, I_l1999, I_l2000]
          rw [f10_noBook (by omega), if_pos q, f10_in (by omega), f10_in (by omega), if_pos qv, if_neg qx]
          simp (disch := omega) only [if_true, if_false, I_add, I_sub, I_mul, I_neg, I_ofNat, Option.bind_some, kIn, I_l0, I_l1, I_l2, I_l3, I_l4, I_l5, I_l6, I_l8, I_l9, I_l10, I_l11, I_l32, I_l40, I_l43, I_l44, I_l45, I_l48, I_l49, I_l57, I_l58, I_l60, I_l61, I_l62, I_l79, I_l80, I_l100, I_l120, I_l180, I_l200, I_l240, I_l300, I_l360, I_l361, I_l362, I_l363, I_l364, I_l365, I_l485, I_l605, I_l1999, I_l2000, I_eq, if_neg, if_true]
    · refine ⟨I (-2), cz c0, cz l0, cz o0, I n0, cz c1, cz l1, cz o1, I n1, cz L, cz R, I g, k, 0, s0, s1, s2, s3, s4, V, W, ?_, ?_, hS, Or.inl ⟨rfl, hH⟩⟩
      · unfold pX9_addChapter
        simp only [if_true, if_false, I_add, I_sub, I_mul, I_neg, I_ofNat, Option.bind_some, kIn, I_l0, I_l1, I_l2, I_l3, I_l4, I_l5, I_l6, I_l8, I_l9, I_l10, I_l11, I_l32, I_l40, I_l43, I_l44, I_l45, I_l48, I_l49, I_l57, I_l58, I_l60, I_l61, I_l62, I_l79, I_l80, I_l100, I_l120, I_l180, I_l200, I_l240, I_l300, I_l360, I_l361, I_l362, I_l363, I_l364, I_l365, I_l485, I_l605, I_l1999, I_l2000]
        rw [f9_isBook (by omega), if_pos q, f9_isWithin (by omega), if_neg qv]
        simp (disch := omega) only [if_true, if_false, I_add, I_sub, I_mul, I_neg, I_ofNat, Option.bind_some, kIn, I_l0, I_l1, I_l2, I_l3, I_l4, I_l5, I_l6, I_l8, I_l9, I_l10, I_l11, I_l32, I_l40, I_l43, I_l44, I_l45, I_l48, I_l49, I_l57, I_l58, I_l60, I_l61, I_l62, I_l79, I_l80, I_l100, I_l120, I_l180, I_l200, I_l240, I_l300, I_l360, I_l361, I_l362, I_l363, I_l364, I_l365, I_l485, I_l605, I_l1999, I_l2000, I_eq, if_neg, if_true]
      · unfold pX10_addChapter
        simp only [if_true, if_false, I_add, I_sub, I_mul, I_neg, I_ofNat, Option.bind_some, kIn, I_l0, I_l1, I_l2, I_l3, I_l4, I_l5, I_l6, I_l8, I_l9, I_l10, I_l11, I_l32, I_l40, I_l43, I_l44, I_l45, I_l48, I_l49, I_l57, I_l58, I_l60, I_l61, I_l62, I_l79, I_l80, I_l100, I_l120, I_l180, I_l200, I_l240, I_l300, I_l360, I_l361, I_l362, I_l363, I_l364, I_l365, I_l485, I_l605, I_l1999, I_l2000]
        rw [f10_noBook (by omega), if_pos q, f10_in (by omega), if_neg qv]
        simp (disch := omega) only [if_true, if_false, I_add, I_sub, I_mul, I_neg, I_ofNat, Option.bind_some, kIn, I_l0, I_l1, I_l2, I_l3, I_l4, I_l5, I_l6, I_l8, I_l9, I_l10, I_l11, I_l32, I_l40, I_l43, I_l44, I_l45, I_l48, I_l49, I_l57, I_l58, I_l60, I_l61, I_l62, I_l79, I_l80, I_l100, I_l120, I_l180, I_l200, I_l240, I_l300, I_l360, I_l361, I_l362, I_l363, I_l364, I_l365, I_l485, I_l605, I_l1999, I_l2000, I_eq, if_neg, if_true]
  · refine ⟨I (-1), cz c0, cz l0, cz o0, I n0, cz c1, cz l1, cz o1, I n1, cz L, cz R, I g, k, 0, s0, s1, s2, s3, s4, V, W, ?_, ?_, hS, Or.inl ⟨rfl, hH⟩⟩
    · unfold pX9_addChapter
      simp only [if_true, if_false, I_add, I_sub, I_mul, I_neg, I_ofNat, Option.bind_some, kIn, I_l0, I_l1, I_l2, I_l3, I_l4, I_l5, I_l6, I_l8, I_l9, I_l10, I_l11, I_l32, I_l40, I_l43, I_l44, I_l45, I_l48, I_l49, I_l57, I_l58, I_l60, I_l61, I_l62, I_l79, I_l80, I_l100, I_l120, I_l180, I_l200, I_l240, I_l300, I_l360, I_l361, I_l362, I_l363, I_l364, I_l365, I_l485, I_l605, I_l1999, I_l2000]
      rw [f9_isBook (by omega), if_neg q]
      simp (disch := omega) only [if_true, if_false, I_add, I_sub, I_mul, I_neg, I_ofNat, Option.bind_some, kIn, I_l0, I_l1, I_l2, I_l3, I_l4, I_l5, I_l6, I_l8, I_l9, I_l10, I_l11, I_l32, I_l40, I_l43, I_l44, I_l45, I_l48, I_l49, I_l57, I_l58, I_l60, I_l61, I_l62, I_l79, I_l80, I_l100, I_l120, I_l180, I_l200, I_l240, I_l300, I_l360, I_l361, I_l362, I_l363, I_l364, I_l365, I_l485, I_l605, I_l1999, I_l2000, I_eq, if_pos]
    · unfold pX10_addChapter
      simp only [if_true, if_false, I_add, I_sub, I_mul, I_neg, I_ofNat, Option.bind_some, kIn, I_l0, I_l1, I_l2, I_l3, I_l4, I_l5, I_l6, I_l8, I_l9, I_l10, I_l11, I_l32, I_l40, I_l43, I_l44, I_l45, I_l48, I_l49, I_l57, I_l58, I_l60, I_l61, I_l62, I_l79, I_l80, I_l100, I_l120, I_l180, I_l200, I_l240, I_l300, I_l360, I_l361, I_l362, I_l363, I_l364, I_l365, I_l485, I_l605, I_l1999, I_l2000]
      rw [f10_noBook (by omega), if_neg q]
      simp (disch := omega) only [if_true, if_false, I_add, I_sub, I_mul, I_neg, I_ofNat, Option.bind_some, kIn, I_l0, I_l1, I_l2, I_l3, I_l4, I_l5, I_l6, I_l8, I_l9, I_l10, I_l11, I_l32, I_l40, I_l43, I_l44, I_l45, I_l48, I_l49, I_l57, I_l58, I_l60, I_l61, I_l62, I_l79, I_l80, I_l100, I_l120, I_l180, I_l200, I_l240, I_l300, I_l360, I_l361, I_l362, I_l363, I_l364, I_l365, I_l485, I_l605, I_l1999, I_l2000, I_eq, if_neg]
end ACT5
