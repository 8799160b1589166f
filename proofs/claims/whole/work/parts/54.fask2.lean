-- chapters and verses asked: both sides alike
theorem okB_hit {n x : Int} {c l o : Int → Int} (h : okB n c l o) (hx : 1 ≤ x ∧ x ≤ at0 c n (n - 1)) : ∃ i, 0 ≤ i ∧ i < n ∧ c i = x := by
  by_cases q : 0 < n
  · have key : ∀ k, 0 ≤ k → k < n → x ≤ c k → ∃ i, 0 ≤ i ∧ i < n ∧ c i = x := by
      intro k hk
      refine zind (P := fun k => k < n → x ≤ c k → ∃ i, 0 ≤ i ∧ i < n ∧ c i = x) (fun h1 h2 => ?_) (fun k hk ih h1 h2 => ?_) k hk
      · have := (h.2 0 (by omega) h1).2.2.2.1 rfl
        exact ⟨0, by omega, h1, by omega⟩
      · by_cases z : c (k + 1) = x
        · exact ⟨k + 1, by omega, h1, z⟩
        · have := (h.2 k hk (by omega)).2.2.2.2 h1
          exact ih (by omega) (by omega)
    rw [at0_in (by omega)] at hx
    exact key (n - 1) (by omega) (by omega) hx.2
  · rw [at0_out (by omega)] at hx
    omega
theorem f10_chapter_L {W c l o : Int → Int} {b n x y j : Int} (hn : (0 ≤ b ∧ b ≤ 1) ∧ 0 ≤ n ∧ n ≤ 60) (hx : -2147483648 ≤ x ∧ x ≤ 2147483647) (hy : -2147483648 ≤ y ∧ y ≤ 2147483647) (hB : rB W b n c l o) (hc : ∀ i, 0 ≤ i → i < n → -100000 ≤ c i ∧ c i ≤ 100000) (e1 : pX10_firstOf (cz W) (I b) (I x) = some (I j)) : ∀ (m : Nat) (s k : Int), 0 ≤ k → k ≤ n → n - k < m → s = cns c l x k → pX10_chapter_L33 (cz W) m (I b) (I x) (I y) (I s) (I k) = some (I (if y = 0 then j else if y = 1 then cnt c x n else if y = 2 then cns c l x n else -2)) := by
  intro m
  induction m with
  | zero => intro s k h0 h1 h2; omega
  | succ m ih =>
    intro s k h0 h1 h2 hs
    show pX10_chapter_bL33 _ _ _ _ _ _ _ = _
    unfold pX10_chapter_bL33 pX10_chapter_j72
    rw [f10_size (by omega), hB.1]
    by_cases g : k = n
    · subst g
      simp (disch := omega) only [if_true, if_false, I_add, I_sub, I_mul, I_neg, I_ofNat, Option.bind_some, kIn, I_l0, I_l1, I_l2, I_l3, I_l4, I_l5, I_l6, I_l8, I_l9, I_l10, I_l11, I_l32, I_l40, I_l43, I_l44, I_l45, I_l48, I_l49, I_l57, I_l58, I_l60, I_l61, I_l62, I_l79, I_l80, I_l100, I_l120, I_l180, I_l200, I_l240, I_l300, I_l360, I_l361, I_l362, I_l363, I_l364, I_l365, I_l485, I_l605, I_l1999, I_l2000, I_le, I_eq, if_pos]
      rw [e1, f10_versesOf hn hx hB hc, hs]
      by_cases y0 : y = 0
      · rw [if_pos y0, if_pos y0]; rfl
      · rw [if_neg y0, if_neg y0]
        by_cases y1 : y = 1
        · rw [if_pos y1, if_pos y1]; rfl
        · rw [if_neg y1, if_neg y1]
          by_cases y2 : y = 2
          · rw [if_pos y2, if_pos y2]
          · rw [if_neg y2, if_neg y2]
    · have h3 := hc k h0 (by omega)
      have h4 := hB.2.2 k h0 (by omega)
      have e : cns c l x (k + 1) = cns c l x k + (if c k = x then l k else 0) := Sm_s h0
      rw [f10_chapterOf (by omega) hB]
      simp (disch := omega) only [if_true, if_false, I_add, I_sub, I_mul, I_neg, I_ofNat, Option.bind_some, kIn, I_l0, I_l1, I_l2, I_l3, I_l4, I_l5, I_l6, I_l8, I_l9, I_l10, I_l11, I_l32, I_l40, I_l43, I_l44, I_l45, I_l48, I_l49, I_l57, I_l58, I_l60, I_l61, I_l62, I_l79, I_l80, I_l100, I_l120, I_l180, I_l200, I_l240, I_l300, I_l360, I_l361, I_l362, I_l363, I_l364, I_l365, I_l485, I_l605, I_l1999, I_l2000, I_le, I_eq, I_lt, I_toInt, cz_at, if_neg]
      by_cases g2 : c k = x
      · rw [if_pos g2] at e
        rw [if_pos g2, if_pos (by omega), h4.1]
        exact ih _ _ (by omega) (by omega) (by omega) (by omega)
      · rw [if_neg g2] at e ⊢
        exact ih _ _ (by omega) (by omega) (by omega) (by omega)
theorem f10_chapterY {W c l o : Int → Int} {b n x y j : Int} (hb : 0 ≤ b ∧ b ≤ 1) (hx : 1 ≤ x ∧ x ≤ at0 c n (n - 1)) (hy : -2147483648 ≤ y ∧ y ≤ 2147483647) (hB : rB W b n c l o) (ho : okB n c l o) (hj : isF c x n j) : pX10_chapter (cz W) (I b) (I x) (I y) = some (I (if y = 0 then j else if y = 1 then cnt c x n else if y = 2 then cns c l x n else -2)) := by
  have hd := at0_bd (F := c) (n := n) (lo := 0) (hi := 10) (fun i p z => by have := (ho.2 i p z).2.2.1; omega) (by omega) (n - 1)
  unfold pX10_chapter
  rw [f10_noBook (by omega), if_pos (by omega)]
  simp (disch := omega) only [if_true, if_false, I_add, I_sub, I_mul, I_neg, I_ofNat, Option.bind_some, kIn, I_l0, I_l1, I_l2, I_l3, I_l4, I_l5, I_l6, I_l8, I_l9, I_l10, I_l11, I_l32, I_l40, I_l43, I_l44, I_l45, I_l48, I_l49, I_l57, I_l58, I_l60, I_l61, I_l62, I_l79, I_l80, I_l100, I_l120, I_l180, I_l200, I_l240, I_l300, I_l360, I_l361, I_l362, I_l363, I_l364, I_l365, I_l485, I_l605, I_l1999, I_l2000, I_le, I_lt, I_eq, I_toInt, cz_at, cz_up, if_pos, if_neg, hB.2.1]
  have e3 : pX10_in (I x) (I 1) (I (at0 c n (n - 1))) = some (I 1) := by rw [f10_in (by omega), if_pos hx]
  refine obind e3 ((if_neg (by decide)).trans ?_)
  exact f10_chapter_L ⟨hb, ho.1⟩ (by omega) hy hB (okB_c2 ho) (f10_firstOf ⟨hb, ho.1, hj.1⟩ (by omega) hB (okB_c2 ho) hj.2.1 hj.2.2) 4000 0 0 (by omega) ho.1.1 (by have := ho.1; omega) rfl
theorem f10_chapterN {W c l o : Int → Int} {b n x : Int} {y : Int32} (hb : 0 ≤ b ∧ b ≤ 1) (hx : -2147483648 ≤ x ∧ x ≤ 2147483647) (hx2 : ¬ (1 ≤ x ∧ x ≤ at0 c n (n - 1))) (hB : rB W b n c l o) (ho : okB n c l o) : pX10_chapter (cz W) (I b) (I x) y = some (I (-1)) := by
  have hd := at0_bd (F := c) (n := n) (lo := 0) (hi := 10) (fun i p z => by have := (ho.2 i p z).2.2.1; omega) (by omega) (n - 1)
  unfold pX10_chapter
  rw [f10_noBook (by omega), if_pos (by omega)]
  simp (disch := omega) only [if_true, if_false, I_add, I_sub, I_mul, I_neg, I_ofNat, Option.bind_some, kIn, I_l0, I_l1, I_l2, I_l3, I_l4, I_l5, I_l6, I_l8, I_l9, I_l10, I_l11, I_l32, I_l40, I_l43, I_l44, I_l45, I_l48, I_l49, I_l57, I_l58, I_l60, I_l61, I_l62, I_l79, I_l80, I_l100, I_l120, I_l180, I_l200, I_l240, I_l300, I_l360, I_l361, I_l362, I_l363, I_l364, I_l365, I_l485, I_l605, I_l1999, I_l2000, I_le, I_lt, I_eq, I_toInt, cz_at, cz_up, if_pos, if_neg, hB.2.1]
  rw [f10_in (by omega), if_neg hx2]
  simp (disch := omega) only [if_true, if_false, I_add, I_sub, I_mul, I_neg, I_ofNat, Option.bind_some, kIn, I_l0, I_l1, I_l2, I_l3, I_l4, I_l5, I_l6, I_l8, I_l9, I_l10, I_l11, I_l32, I_l40, I_l43, I_l44, I_l45, I_l48, I_l49, I_l57, I_l58, I_l60, I_l61, I_l62, I_l79, I_l80, I_l100, I_l120, I_l180, I_l200, I_l240, I_l300, I_l360, I_l361, I_l362, I_l363, I_l364, I_l365, I_l485, I_l605, I_l1999, I_l2000, I_le, I_lt, I_eq, I_toInt, cz_at, cz_up, if_pos, if_neg]
section ASK2
variable {W : Int → Int} {vL0 vL1 vL2 : Nat → Int32} {vL3 : Int32} {vR0 vR1 vR2 : Nat → Int32} {vR3 : Int32} {vM0 vM1 : Nat → Int32} {vM2 : Int32}
theorem e_chapter (hS : rS ((vL0, vL1, vL2, vL3), (vR0, vR1, vR2, vR3), (vM0, vM1, vM2)) W) (i1 i2 i3 : Int32) : ∃ a : Int32, pX9_chapter vL0 vL1 vL3 vR0 vR1 vR3 i1 i2 i3 = some a ∧ pX10_chapter (cz W) i1 i2 i3 = some a := by
  obtain ⟨b, hb, rfl⟩ := I_of i1
  obtain ⟨x, hx, rfl⟩ := I_of i2
  obtain ⟨y, hy, rfl⟩ := I_of i3
  obtain ⟨c0, l0, o0, n0, c1, l1, o1, n1, L, R, g, e, k0, k1, kM, r0, r1, rm⟩ := id hS
  simp only [Prod.mk.injEq] at e
  obtain ⟨⟨rfl, rfl, rfl, rfl⟩, ⟨rfl, rfl, rfl, rfl⟩, rfl, rfl, rfl⟩ := e
  have b0 := k0.1
  have b1 := k1.1
  unfold pX9_chapter
  simp only [if_true, if_false, I_add, I_sub, I_mul, I_neg, I_ofNat, Option.bind_some, kIn, I_l0, I_l1, I_l2, I_l3, I_l4, I_l5, I_l6, I_l8, I_l9, I_l10, I_l11, I_l32, I_l40, I_l43, I_l44, I_l45, I_l48, I_l49, I_l57, I_l58, I_l60, I_l61, I_l62, I_l79, I_l80, I_l100, I_l120, I_l180, I_l200, I_l240, I_l300, I_l360, I_l361, I_l362, I_l363, I_l364, I_l365, I_l485, I_l605, I_l1999, I_l2000]
  rw [f9_isBook hb]
  by_cases q : b = 0 ∨ b = 1
  · rw [if_pos q]
    rcases q with rfl | rfl
    · have hd := at0_bd (F := c0) (n := n0) (lo := 0) (hi := 10) (fun i p z => by have := (k0.2 i p z).2.2.1; omega) (by omega) (n0 - 1)
      simp (disch := omega) only [if_true, if_false, I_add, I_sub, I_mul, I_neg, I_ofNat, Option.bind_some, kIn, I_l0, I_l1, I_l2, I_l3, I_l4, I_l5, I_l6, I_l8, I_l9, I_l10, I_l11, I_l32, I_l40, I_l43, I_l44, I_l45, I_l48, I_l49, I_l57, I_l58, I_l60, I_l61, I_l62, I_l79, I_l80, I_l100, I_l120, I_l180, I_l200, I_l240, I_l300, I_l360, I_l361, I_l362, I_l363, I_l364, I_l365, I_l485, I_l605, I_l1999, I_l2000, I_eq, if_neg, if_pos]
      rw [f0_chapterTotal (by omega)]
      simp (disch := omega) only [if_true, if_false, I_add, I_sub, I_mul, I_neg, I_ofNat, Option.bind_some, kIn, I_l0, I_l1, I_l2, I_l3, I_l4, I_l5, I_l6, I_l8, I_l9, I_l10, I_l11, I_l32, I_l40, I_l43, I_l44, I_l45, I_l48, I_l49, I_l57, I_l58, I_l60, I_l61, I_l62, I_l79, I_l80, I_l100, I_l120, I_l180, I_l200, I_l240, I_l300, I_l360, I_l361, I_l362, I_l363, I_l364, I_l365, I_l485, I_l605, I_l1999, I_l2000, I_eq]
      rw [f9_isWithin (by omega)]
      by_cases q2 : 1 ≤ x ∧ x ≤ at0 c0 n0 (n0 - 1)
      · obtain ⟨j, hj⟩ := ex_F (okB_hit k0 q2)
        refine ⟨_, ?_, f10_chapterY (by omega) q2 hy r0 k0 hj⟩
        rw [if_pos q2]
        simp (disch := omega) only [if_true, if_false, I_add, I_sub, I_mul, I_neg, I_ofNat, Option.bind_some, kIn, I_l0, I_l1, I_l2, I_l3, I_l4, I_l5, I_l6, I_l8, I_l9, I_l10, I_l11, I_l32, I_l40, I_l43, I_l44, I_l45, I_l48, I_l49, I_l57, I_l58, I_l60, I_l61, I_l62, I_l79, I_l80, I_l100, I_l120, I_l180, I_l200, I_l240, I_l300, I_l360, I_l361, I_l362, I_l363, I_l364, I_l365, I_l485, I_l605, I_l1999, I_l2000, I_eq, if_neg, if_pos]
        rw [f9_isWithin (by omega), f0_firstOf ⟨by omega, hj.1⟩ (by omega) (okB_c2 k0) hj.2.1 hj.2.2, f0_versesOf (by omega) (by omega) (okB_c2 k0), f0_letterSumOf (by omega) (by omega) (okB_c2 k0)]
        by_cases q3 : 0 ≤ y ∧ y ≤ 2
        · rw [if_pos q3]
          simp (disch := omega) only [if_true, if_false, I_add, I_sub, I_mul, I_neg, I_ofNat, Option.bind_some, kIn, I_l0, I_l1, I_l2, I_l3, I_l4, I_l5, I_l6, I_l8, I_l9, I_l10, I_l11, I_l32, I_l40, I_l43, I_l44, I_l45, I_l48, I_l49, I_l57, I_l58, I_l60, I_l61, I_l62, I_l79, I_l80, I_l100, I_l120, I_l180, I_l200, I_l240, I_l300, I_l360, I_l361, I_l362, I_l363, I_l364, I_l365, I_l485, I_l605, I_l1999, I_l2000, I_eq, if_neg, if_pos]
          by_cases y0 : y = 0
          · rw [if_pos y0, if_pos y0]
          · rw [if_neg y0, if_neg y0]
            by_cases y1 : y = 1
            · rw [if_pos y1, if_pos y1]
            · rw [if_neg y1, if_neg y1]
        · rw [if_neg q3, if_neg (by omega), if_neg (by omega), if_neg (by omega)]
          simp (disch := omega) only [if_true, if_false, I_add, I_sub, I_mul, I_neg, I_ofNat, Option.bind_some, kIn, I_l0, I_l1, I_l2, I_l3, I_l4, I_l5, I_l6, I_l8, I_l9, I_l10, I_l11, I_l32, I_l40, I_l43, I_l44, I_l45, I_l48, I_l49, I_l57, I_l58, I_l60, I_l61, I_l62, I_l79, I_l80, I_l100, I_l120, I_l180, I_l200, I_l240, I_l300, I_l360, I_l361, I_l362, I_l363, I_l364, I_l365, I_l485, I_l605, I_l1999, I_l2000, I_eq, if_neg, if_pos]
      · refine ⟨_, ?_, f10_chapterN (by omega) hx q2 r0 k0⟩
        rw [if_neg q2]
        simp (disch := omega) only [if_true, if_false, I_add, I_sub, I_mul, I_neg, I_ofNat, Option.bind_some, kIn, I_l0, I_l1, I_l2, I_l3, I_l4, I_l5, I_l6, I_l8, I_l9, I_l10, I_l11, I_l32, I_l40, I_l43, I_l44, I_l45, I_l48, I_l49, I_l57, I_l58, I_l60, I_l61, I_l62, I_l79, I_l80, I_l100, I_l120, I_l180, I_l200, I_l240, I_l300, I_l360, I_l361, I_l362, I_l363, I_l364, I_l365, I_l485, I_l605, I_l1999, I_l2000, I_eq, if_neg, if_pos]
    · have hd := at0_bd (F := c1) (n := n1) (lo := 0) (hi := 10) (fun i p z => by have := (k1.2 i p z).2.2.1; omega) (by omega) (n1 - 1)
      simp (disch := omega) only [if_true, if_false, I_add, I_sub, I_mul, I_neg, I_ofNat, Option.bind_some, kIn, I_l0, I_l1, I_l2, I_l3, I_l4, I_l5, I_l6, I_l8, I_l9, I_l10, I_l11, I_l32, I_l40, I_l43, I_l44, I_l45, I_l48, I_l49, I_l57, I_l58, I_l60, I_l61, I_l62, I_l79, I_l80, I_l100, I_l120, I_l180, I_l200, I_l240, I_l300, I_l360, I_l361, I_l362, I_l363, I_l364, I_l365, I_l485, I_l605, I_l1999, I_l2000, I_eq, if_neg, if_pos]
      rw [f0_chapterTotal (by omega)]
      simp (disch := omega) only [if_true, if_false, I_add, I_sub, I_mul, I_neg, I_ofNat, Option.bind_some, kIn, I_l0, I_l1, I_l2, I_l3, I_l4, I_l5, I_l6, I_l8, I_l9, I_l10, I_l11, I_l32, I_l40, I_l43, I_l44, I_l45, I_l48, I_l49, I_l57, I_l58, I_l60, I_l61, I_l62, I_l79, I_l80, I_l100, I_l120, I_l180, I_l200, I_l240, I_l300, I_l360, I_l361, I_l362, I_l363, I_l364, I_l365, I_l485, I_l605, I_l1999, I_l2000, I_eq]
      rw [f9_isWithin (by omega)]
      by_cases q2 : 1 ≤ x ∧ x ≤ at0 c1 n1 (n1 - 1)
      · obtain ⟨j, hj⟩ := ex_F (okB_hit k1 q2)
        refine ⟨_, ?_, f10_chapterY (by omega) q2 hy r1 k1 hj⟩
        rw [if_pos q2]
        simp (disch := omega) only [if_true, if_false, I_add, I_sub, I_mul, I_neg, I_ofNat, Option.bind_some, kIn, I_l0, I_l1, I_l2, I_l3, I_l4, I_l5, I_l6, I_l8, I_l9, I_l10, I_l11, I_l32, I_l40, I_l43, I_l44, I_l45, I_l48, I_l49, I_l57, I_l58, I_l60, I_l61, I_l62, I_l79, I_l80, I_l100, I_l120, I_l180, I_l200, I_l240, I_l300, I_l360, I_l361, I_l362, I_l363, I_l364, I_l365, I_l485, I_l605, I_l1999, I_l2000, I_eq, if_neg, if_pos]
        rw [f9_isWithin (by omega), f0_firstOf ⟨by omega, hj.1⟩ (by omega) (okB_c2 k1) hj.2.1 hj.2.2, f0_versesOf (by omega) (by omega) (okB_c2 k1), f0_letterSumOf (by omega) (by omega) (okB_c2 k1)]
        by_cases q3 : 0 ≤ y ∧ y ≤ 2
        · rw [if_pos q3]
          simp (disch := omega) only [if_true, if_false, I_add, I_sub, I_mul, I_neg, I_ofNat, Option.bind_some, kIn, I_l0, I_l1, I_l2, I_l3, I_l4, I_l5, I_l6, I_l8, I_l9, I_l10, I_l11, I_l32, I_l40, I_l43, I_l44, I_l45, I_l48, I_l49, I_l57, I_l58, I_l60, I_l61, I_l62, I_l79, I_l80, I_l100, I_l120, I_l180, I_l200, I_l240, I_l300, I_l360, I_l361, I_l362, I_l363, I_l364, I_l365, I_l485, I_l605, I_l1999, I_l2000, I_eq, if_neg, if_pos]
          by_cases y0 : y = 0
          · rw [if_pos y0, if_pos y0]
          · rw [if_neg y0, if_neg y0]
            by_cases y1 : y = 1
            · rw [if_pos y1, if_pos y1]
            · rw [if_neg y1, if_neg y1]
        · rw [if_neg q3, if_neg (by omega), if_neg (by omega), if_neg (by omega)]
          simp (disch := omega) only [if_true, if_false, I_add, I_sub, I_mul, I_neg, I_ofNat, Option.bind_some, kIn, I_l0, I_l1, I_l2, I_l3, I_l4, I_l5, I_l6, I_l8, I_l9, I_l10, I_l11, I_l32, I_l40, I_l43, I_l44, I_l45, I_l48, I_l49, I_l57, I_l58, I_l60, I_l61, I_l62, I_l79, I_l80, I_l100, I_l120, I_l180, I_l200, I_l240, I_l300, I_l360, I_l361, I_l362, I_l363, I_l364, I_l365, I_l485, I_l605, I_l1999, I_l2000, I_eq, if_neg, if_pos]
      · refine ⟨_, ?_, f10_chapterN (by omega) hx q2 r1 k1⟩
        rw [if_neg q2]
        simp (disch := omega) only [if_true, if_false, I_add, I_sub, I_mul, I_neg, I_ofNat, Option.bind_some, kIn, I_l0, I_l1, I_l2, I_l3, I_l4, I_l5, I_l6, I_l8, I_l9, I_l10, I_l11, I_l32, I_l40, I_l43, I_l44, I_l45, I_l48, I_l49, I_l57, I_l58, I_l60, I_l61, I_l62, I_l79, I_l80, I_l100, I_l120, I_l180, I_l200, I_l240, I_l300, I_l360, I_l361, I_l362, I_l363, I_l364, I_l365, I_l485, I_l605, I_l1999, I_l2000, I_eq, if_neg, if_pos]
  · rw [if_neg q]
    refine ⟨I (-1), ?_, ?_⟩
    · simp (disch := omega) only [if_true, if_false, I_add, I_sub, I_mul, I_neg, I_ofNat, Option.bind_some, kIn, I_l0, I_l1, I_l2, I_l3, I_l4, I_l5, I_l6, I_l8, I_l9, I_l10, I_l11, I_l32, I_l40, I_l43, I_l44, I_l45, I_l48, I_l49, I_l57, I_l58, I_l60, I_l61, I_l62, I_l79, I_l80, I_l100, I_l120, I_l180, I_l200, I_l240, I_l300, I_l360, I_l361, I_l362, I_l363, I_l364, I_l365, I_l485, I_l605, I_l1999, I_l2000, I_le, I_lt, I_eq, I_toInt, cz_at, cz_up, if_pos, if_neg]
    · unfold pX10_chapter
      rw [f10_noBook hb, if_neg q]
      simp (disch := omega) only [if_true, if_false, I_add, I_sub, I_mul, I_neg, I_ofNat, Option.bind_some, kIn, I_l0, I_l1, I_l2, I_l3, I_l4, I_l5, I_l6, I_l8, I_l9, I_l10, I_l11, I_l32, I_l40, I_l43, I_l44, I_l45, I_l48, I_l49, I_l57, I_l58, I_l60, I_l61, I_l62, I_l79, I_l80, I_l100, I_l120, I_l180, I_l200, I_l240, I_l300, I_l360, I_l361, I_l362, I_l363, I_l364, I_l365, I_l485, I_l605, I_l1999, I_l2000, I_le, I_lt, I_eq, I_toInt, cz_at, cz_up, if_pos, if_neg]
end ASK2
