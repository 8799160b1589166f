-- what of the row a book and the map are read from
theorem rB.keep {W X : Int → Int} {b n : Int} {c l o : Int → Int} (hn : n ≤ 60) (h1 : X (360 + b) = W (360 + b)) (h2 : X (362 + b) = W (362 + b)) (h3 : ∀ i, 0 ≤ i → i < 60 → X (60 * b + i) = W (60 * b + i) ∧ X (120 + 60 * b + i) = W (120 + 60 * b + i) ∧ X (240 + 60 * b + i) = W (240 + 60 * b + i)) (r : rB W b n c l o) : rB X b n c l o := by
  refine ⟨h1.trans r.1, h2.trans r.2.1, fun i x y => ?_⟩
  obtain ⟨a1, a2, a3⟩ := h3 i x (by omega)
  rw [a1, a2, a3]
  exact r.2.2 i x y
theorem rM.keep {W X : Int → Int} {g : Int} {L R : Int → Int} (hg : g ≤ 120) (h : ∀ i, 364 ≤ i → i < 605 → X i = W i) (r : rM W g L R) : rM X g L R := by
  refine ⟨by rw [h _ (by omega) (by omega)]; exact r.1, fun i x y => ?_⟩
  rw [h _ (by omega) (by omega), h _ (by omega) (by omega)]
  exact r.2 i x y
theorem f9_isVerse {n0 n1 b v : Int} (h : (0 ≤ n0 ∧ n0 ≤ 60) ∧ (0 ≤ n1 ∧ n1 ≤ 60) ∧ (-2147483648 ≤ b ∧ b ≤ 2147483647) ∧ -2147483648 ≤ v ∧ v ≤ 2147483647) : pX9_isVerse (I n0) (I n1) (I b) (I v) = some (I (if (b = 0 ∧ 0 ≤ v ∧ v < n0) ∨ (b = 1 ∧ 0 ≤ v ∧ v < n1) then 1 else 0)) := by
  unfold pX9_isVerse
  rw [f9_isBook (by omega)]
  by_cases q : b = 0
  · rw [if_pos (Or.inl q), f0_has (by omega)]
    simp (disch := omega) only [if_true, if_false, I_add, I_sub, I_mul, I_neg, I_ofNat, Option.bind_some, kIn, I_l0, I_l1, I_l2, I_l3, I_l4, I_l5, I_l6, I_l8, I_l9, I_l10, I_l11, I_l32, I_l40, I_l43, I_l44, I_l45, I_l48, I_l49, I_l57, I_l58, I_l60, I_l61, I_l62, I_l79, I_l80, I_l100, I_l120, I_l180, I_l200, I_l240, I_l300, I_l360, I_l361, I_l362, I_l363, I_l364, I_l365, I_l485, I_l605, I_l1999, I_l2000, I_eq, if_pos, if_neg]
    by_cases z : 0 ≤ v ∧ v < n0
    · rw [if_pos z, if_pos (Or.inl ⟨q, z⟩)]
      simp (disch := omega) only [if_true, if_false, I_add, I_sub, I_mul, I_neg, I_ofNat, Option.bind_some, kIn, I_l0, I_l1, I_l2, I_l3, I_l4, I_l5, I_l6, I_l8, I_l9, I_l10, I_l11, I_l32, I_l40, I_l43, I_l44, I_l45, I_l48, I_l49, I_l57, I_l58, I_l60, I_l61, I_l62, I_l79, I_l80, I_l100, I_l120, I_l180, I_l200, I_l240, I_l300, I_l360, I_l361, I_l362, I_l363, I_l364, I_l365, I_l485, I_l605, I_l1999, I_l2000, I_eq, if_neg]
    · have e : ¬ ((b = 0 ∧ 0 ≤ v ∧ v < n0) ∨ (b = 1 ∧ 0 ≤ v ∧ v < n1)) := by omega
      rw [if_neg z, if_neg e]
      simp (disch := omega) only [if_true, if_false, I_add, I_sub, I_mul, I_neg, I_ofNat, Option.bind_some, kIn, I_l0, I_l1, I_l2, I_l3, I_l4, I_l5, I_l6, I_l8, I_l9, I_l10, I_l11, I_l32, I_l40, I_l43, I_l44, I_l45, I_l48, I_l49, I_l57, I_l58, I_l60, I_l61, I_l62, I_l79, I_l80, I_l100, I_l120, I_l180, I_l200, I_l240, I_l300, I_l360, I_l361, I_l362, I_l363, I_l364, I_l365, I_l485, I_l605, I_l1999, I_l2000, I_eq, if_pos]
  · by_cases q1 : b = 1
    · rw [if_pos (Or.inr q1), f0_has (by omega), f0_has (by omega)]
      simp (disch := omega) only [if_true, if_false, I_add, I_sub, I_mul, I_neg, I_ofNat, Option.bind_some, kIn, I_l0, I_l1, I_l2, I_l3, I_l4, I_l5, I_l6, I_l8, I_l9, I_l10, I_l11, I_l32, I_l40, I_l43, I_l44, I_l45, I_l48, I_l49, I_l57, I_l58, I_l60, I_l61, I_l62, I_l79, I_l80, I_l100, I_l120, I_l180, I_l200, I_l240, I_l300, I_l360, I_l361, I_l362, I_l363, I_l364, I_l365, I_l485, I_l605, I_l1999, I_l2000, I_eq, if_pos, if_neg]
      by_cases z : 0 ≤ v ∧ v < n1
      · rw [if_pos z, if_pos (Or.inr ⟨q1, z⟩)]
        simp (disch := omega) only [if_true, if_false, I_add, I_sub, I_mul, I_neg, I_ofNat, Option.bind_some, kIn, I_l0, I_l1, I_l2, I_l3, I_l4, I_l5, I_l6, I_l8, I_l9, I_l10, I_l11, I_l32, I_l40, I_l43, I_l44, I_l45, I_l48, I_l49, I_l57, I_l58, I_l60, I_l61, I_l62, I_l79, I_l80, I_l100, I_l120, I_l180, I_l200, I_l240, I_l300, I_l360, I_l361, I_l362, I_l363, I_l364, I_l365, I_l485, I_l605, I_l1999, I_l2000, I_eq, if_neg]
      · have e : ¬ ((b = 0 ∧ 0 ≤ v ∧ v < n0) ∨ (b = 1 ∧ 0 ≤ v ∧ v < n1)) := by omega
        rw [if_neg z, if_neg e]
        simp (disch := omega) only [if_true, if_false, I_add, I_sub, I_mul, I_neg, I_ofNat, Option.bind_some, kIn, I_l0, I_l1, I_l2, I_l3, I_l4, I_l5, I_l6, I_l8, I_l9, I_l10, I_l11, I_l32, I_l40, I_l43, I_l44, I_l45, I_l48, I_l49, I_l57, I_l58, I_l60, I_l61, I_l62, I_l79, I_l80, I_l100, I_l120, I_l180, I_l200, I_l240, I_l300, I_l360, I_l361, I_l362, I_l363, I_l364, I_l365, I_l485, I_l605, I_l1999, I_l2000, I_eq, if_pos]
    · have e0 : ¬ (b = 0 ∨ b = 1) := by omega
      have e : ¬ ((b = 0 ∧ 0 ≤ v ∧ v < n0) ∨ (b = 1 ∧ 0 ≤ v ∧ v < n1)) := by omega
      rw [if_neg e0, if_neg e]
      simp (disch := omega) only [if_true, if_false, I_add, I_sub, I_mul, I_neg, I_ofNat, Option.bind_some, kIn, I_l0, I_l1, I_l2, I_l3, I_l4, I_l5, I_l6, I_l8, I_l9, I_l10, I_l11, I_l32, I_l40, I_l43, I_l44, I_l45, I_l48, I_l49, I_l57, I_l58, I_l60, I_l61, I_l62, I_l79, I_l80, I_l100, I_l120, I_l180, I_l200, I_l240, I_l300, I_l360, I_l361, I_l362, I_l363, I_l364, I_l365, I_l485, I_l605, I_l1999, I_l2000, I_eq, if_pos]
theorem f9_isVerseY {n0 n1 b v : Int} (h : (0 ≤ n0 ∧ n0 ≤ 60) ∧ (0 ≤ n1 ∧ n1 ≤ 60)) (hv : (b = 0 ∧ 0 ≤ v ∧ v < n0) ∨ (b = 1 ∧ 0 ≤ v ∧ v < n1)) : pX9_isVerse (I n0) (I n1) (I b) (I v) = some (I 1) := by
  rw [f9_isVerse (by omega), if_pos hv]
theorem f9_isVerseN {n0 n1 b v : Int} (h : (0 ≤ n0 ∧ n0 ≤ 60) ∧ (0 ≤ n1 ∧ n1 ≤ 60) ∧ (-2147483648 ≤ b ∧ b ≤ 2147483647) ∧ -2147483648 ≤ v ∧ v ≤ 2147483647) (hv : ¬ ((b = 0 ∧ 0 ≤ v ∧ v < n0) ∨ (b = 1 ∧ 0 ≤ v ∧ v < n1))) : pX9_isVerse (I n0) (I n1) (I b) (I v) = some (I 0) := by
  rw [f9_isVerse (by omega), if_neg hv]
-- the reference's test, over both books
theorem f10_noVerseY {W : Int → Int} {n0 n1 b v : Int} (h : (0 ≤ n0 ∧ n0 ≤ 60) ∧ (0 ≤ n1 ∧ n1 ≤ 60)) (w0 : W 360 = n0) (w1 : W 361 = n1) (hv : (b = 0 ∧ 0 ≤ v ∧ v < n0) ∨ (b = 1 ∧ 0 ≤ v ∧ v < n1)) : pX10_noVerse (cz W) (I b) (I v) = some (I 0) := by
  rcases hv with ⟨rfl, hv⟩ | ⟨rfl, hv⟩
  · rw [f10_noVerse (n := n0) (by omega) w0, if_pos hv]
  · rw [f10_noVerse (n := n1) (by omega) w1, if_pos hv]
theorem f10_noVerseX {W : Int → Int} {n0 n1 b v : Int} (h : (0 ≤ n0 ∧ n0 ≤ 60) ∧ (0 ≤ n1 ∧ n1 ≤ 60) ∧ (-2147483648 ≤ b ∧ b ≤ 2147483647) ∧ -2147483648 ≤ v ∧ v ≤ 2147483647) (w0 : W 360 = n0) (w1 : W 361 = n1) (hv : ¬ ((b = 0 ∧ 0 ≤ v ∧ v < n0) ∨ (b = 1 ∧ 0 ≤ v ∧ v < n1))) : pX10_noVerse (cz W) (I b) (I v) = some (I 1) := by
  by_cases q : b = 0
  · subst q
    rw [f10_noVerse (n := n0) (by omega) w0, if_neg (by omega)]
  · by_cases q1 : b = 1
    · subst q1
      rw [f10_noVerse (n := n1) (by omega) w1, if_neg (by omega)]
    · exact f10_noVerseN (by omega)
theorem rB_set {W : Int → Int} {b n v x y : Int} {c l o : Int → Int} (hb : 0 ≤ b ∧ b ≤ 1) (hn : n ≤ 60) (hv : 0 ≤ v ∧ v < n) (r : rB W b n c l o) : rB (up (up W (60 * b + v) x) (120 + (60 * b + v)) y) b n c (up l v x) (up o v y) := by
  refine ⟨by rw [up_ne (by omega), up_ne (by omega)]; exact r.1, by rw [up_ne (by omega), up_ne (by omega)]; exact r.2.1, fun i p q => ?_⟩
  have h := r.2.2 i p q
  refine ⟨?_, ?_, ?_⟩
  · by_cases z : i = v
    · rw [up_ne (by omega), up_at (by omega), up_at z]
    · rw [up_ne (by omega), up_ne (by omega), up_ne z]; exact h.1
  · by_cases z : i = v
    · rw [up_at (by omega), up_at z]
    · rw [up_ne (by omega), up_ne (by omega), up_ne z]; exact h.2.1
  · rw [up_ne (by omega), up_ne (by omega)]; exact h.2.2
theorem rB_setO {W : Int → Int} {b d n m v x y : Int} {c l o : Int → Int} (hb : (0 ≤ b ∧ b ≤ 1) ∧ (0 ≤ d ∧ d ≤ 1) ∧ ¬ b = d) (hn : n ≤ 60) (hv : 0 ≤ v ∧ v < m ∧ m ≤ 60) (r : rB W d n c l o) : rB (up (up W (60 * b + v) x) (120 + (60 * b + v)) y) d n c l o := by
  have hc : (b = 0 ∧ d = 1) ∨ (b = 1 ∧ d = 0) := by omega
  exact r.keep hn (by rw [up_ne (by omega), up_ne (by omega)]) (by rw [up_ne (by omega), up_ne (by omega)]) (fun i p q => ⟨by rw [up_ne (by omega), up_ne (by omega)], by rw [up_ne (by omega), up_ne (by omega)], by rw [up_ne (by omega), up_ne (by omega)]⟩)
theorem rM_set {W : Int → Int} {b v x y g : Int} {L R : Int → Int} (hb : 0 ≤ b ∧ b ≤ 1) (hg : g ≤ 120) (hv : 0 ≤ v ∧ v < 60) (r : rM W g L R) : rM (up (up W (60 * b + v) x) (120 + (60 * b + v)) y) g L R := r.keep hg (fun i p q => by rw [up_ne (by omega), up_ne (by omega)])
theorem okB_set {n v x y : Int} {c l o : Int → Int} (hx : 1 ≤ x ∧ x ≤ 2000) (hy : 0 ≤ y ∧ y ≤ 10) (h : okB n c l o) : okB n c (up l v x) (up o v y) := by
  refine ⟨h.1, fun i p q => ?_⟩
  obtain ⟨a1, a2, a3⟩ := h.2 i p q
  refine ⟨?_, ?_, a3⟩
  · by_cases z : i = v
    · rw [up_at z]; exact hx
    · rw [up_ne z]; exact a1
  · by_cases z : i = v
    · rw [up_at z]; exact hy
    · rw [up_ne z]; exact a2
theorem f10_setVerse {W : Int → Int} {V V2 : Nat → Int32} {b v x y lv : Int} {kk k2 : Int32} (hb : 0 ≤ b ∧ b ≤ 1) (hv : 0 ≤ v ∧ v < 60) (hx : 1 ≤ x ∧ x ≤ 2000) (hy : 0 ≤ y ∧ y ≤ 10) (hn : pX10_noVerse (cz W) (I b) (I v) = some (I 0)) (hl : W (60 * b + v) = lv) (e2 : pX10_record (cz W) V kk = some (V2, k2)) : pX10_setVerse (cz W) V kk (I b) (I v) (I x) (I y) = some (I lv, cz (up (up W (60 * b + v) x) (120 + (60 * b + v)) y), V2, k2) := by
  unfold pX10_setVerse
  simp only [if_true, if_false, I_add, I_sub, I_mul, I_neg, I_ofNat, Option.bind_some, kIn, I_l0, I_l1, I_l2, I_l3, I_l4, I_l5, I_l6, I_l8, I_l9, I_l10, I_l11, I_l32, I_l40, I_l43, I_l44, I_l45, I_l48, I_l49, I_l57, I_l58, I_l60, I_l61, I_l62, I_l79, I_l80, I_l100, I_l120, I_l180, I_l200, I_l240, I_l300, I_l360, I_l361, I_l362, I_l363, I_l364, I_l365, I_l485, I_l605, I_l1999, I_l2000]
  rw [hn, f10_in (by omega), f10_in (by omega), if_pos hx, if_pos hy, e2]
  simp (disch := omega) only [if_true, if_false, I_add, I_sub, I_mul, I_neg, I_ofNat, Option.bind_some, kIn, I_l0, I_l1, I_l2, I_l3, I_l4, I_l5, I_l6, I_l8, I_l9, I_l10, I_l11, I_l32, I_l40, I_l43, I_l44, I_l45, I_l48, I_l49, I_l57, I_l58, I_l60, I_l61, I_l62, I_l79, I_l80, I_l100, I_l120, I_l180, I_l200, I_l240, I_l300, I_l360, I_l361, I_l362, I_l363, I_l364, I_l365, I_l485, I_l605, I_l1999, I_l2000, I_le, I_lt, I_eq, I_toInt, cz_at, cz_up, if_pos, if_neg]
  rw [hl]
section ACT4
variable {k : Int} {s0 s1 s2 s3 s4 : vST} {V W : Int → Int} {vL0 vL1 vL2 : Nat → Int32} {vL3 : Int32} {vR0 vR1 vR2 : Nat → Int32} {vR3 : Int32} {vM0 vM1 : Nat → Int32} {vM2 : Int32}
theorem e_setVerse (hH : rH k s0 s1 s2 s3 s4 V) (hS : rS ((vL0, vL1, vL2, vL3), (vR0, vR1, vR2, vR3), (vM0, vM1, vM2)) W) (i1 i2 i3 i4 : Int32) : ∃ (a : Int32) (x1 x2 y1 y2 : Nat → Int32) (k2 : Int) (r : Nat) (t0 t1 t2 t3 t4 : vST) (V2 W2 : Int → Int), pX9_setVerse vL0 vL1 vL2 vL3 vR0 vR1 vR2 vR3 vM0 vM1 vM2 (I k) s0 s1 s2 s3 s4 i1 i2 i3 i4 = some (a, x1, x2, y1, y2, I k2, r, t0, t1, t2, t3, t4) ∧ pX10_setVerse (cz W) (cz V) (I k) i1 i2 i3 i4 = some (a, cz W2, cz V2, I k2) ∧ rS ((vL0, x1, x2, vL3), (vR0, y1, y2, vR3), (vM0, vM1, vM2)) W2 ∧ rHr r k2 t0 t1 t2 t3 t4 V2 := by
  obtain ⟨b, hb, rfl⟩ := I_of i1
  obtain ⟨v, hv, rfl⟩ := I_of i2
  obtain ⟨x, hx, rfl⟩ := I_of i3
  obtain ⟨y, hy, rfl⟩ := I_of i4
  obtain ⟨c0, l0, o0, n0, c1, l1, o1, n1, L, R, g, e, k0, k1, kM, r0, r1, rm⟩ := id hS
  simp only [Prod.mk.injEq] at e
  obtain ⟨⟨rfl, rfl, rfl, rfl⟩, ⟨rfl, rfl, rfl, rfl⟩, rfl, rfl, rfl⟩ := e
  have b0 := k0.1
  have b1 := k1.1
  by_cases q : (b = 0 ∧ 0 ≤ v ∧ v < n0) ∨ (b = 1 ∧ 0 ≤ v ∧ v < n1)
  · have hY := f9_isVerseY ⟨b0, b1⟩ q
    have hN := f10_noVerseY (W := W) ⟨b0, b1⟩ r0.1 r1.1 q
    by_cases qx : 1 ≤ x ∧ x ≤ 2000
    · by_cases qy : 0 ≤ y ∧ y ≤ 10
      · obtain ⟨k2, r, t0, t1, t2, t3, t4, V2, hh, e1, e2⟩ := e_record hH hS
        rcases q with ⟨rfl, q⟩ | ⟨rfl, q⟩
        · have hl : W (60 * 0 + v) = l0 v := (r0.2.2 v q.1 q.2).1
          refine ⟨I (l0 v), cz (up l0 v x), cz (up o0 v y), cz l1, cz o1, k2, r, t0, t1, t2, t3, t4, V2, _, ?_, f10_setVerse (by omega) (by omega) qx qy hN hl e2, ?_, hh⟩
          · unfold pX9_setVerse
            simp only [if_true, if_false, I_add, I_sub, I_mul, I_neg, I_ofNat, Option.bind_some, kIn, I_l0, I_l1, I_l2, I_l3, I_l4, I_l5, I_l6, I_l8, I_l9, I_l10, I_l11, I_l32, I_l40, I_l43, I_l44, I_l45, I_l48, I_l49, I_l57, I_l58, I_l60, I_l61, I_l62, I_l79, I_l80, I_l100, I_l120, I_l180, I_l200, I_l240, I_l300, I_l360, I_l361, I_l362, I_l363, I_l364, I_l365, I_l485, I_l605, I_l1999, I_l2000]
            rw [hY, f9_isWithin (by omega), f9_isWithin (by omega), if_pos qx, if_pos qy, e1, f0_lettersOf (by omega), at0_in q, f0_put (by omega)]
            simp (disch := omega) only [if_true, if_false, I_add, I_sub, I_mul, I_neg, I_ofNat, Option.bind_some, kIn, I_l0, I_l1, I_l2, I_l3, I_l4, I_l5, I_l6, I_l8, I_l9, I_l10, I_l11, I_l32, I_l40, I_l43, I_l44, I_l45, I_l48, I_l49, I_l57, I_l58, I_l60, I_l61, I_l62, I_l79, I_l80, I_l100, I_l120, I_l180, I_l200, I_l240, I_l300, I_l360, I_l361, I_l362, I_l363, I_l364, I_l365, I_l485, I_l605, I_l1999, I_l2000, I_eq, if_pos, if_neg]
          · exact ⟨c0, _, _, n0, c1, l1, o1, n1, L, R, g, rfl, okB_set qx qy k0, k1, kM, rB_set (by omega) b0.2 q r0, rB_setO (m := n0) (by omega) b1.2 (by omega) r1, rM_set (by omega) kM.1.2 (by omega) rm⟩
        · have hl : W (60 * 1 + v) = l1 v := (r1.2.2 v q.1 q.2).1
          refine ⟨I (l1 v), cz l0, cz o0, cz (up l1 v x), cz (up o1 v y), k2, r, t0, t1, t2, t3, t4, V2, _, ?_, f10_setVerse (by omega) (by omega) qx qy hN hl e2, ?_, hh⟩
          · unfold pX9_setVerse
            simp only [if_true, if_false, I_add, I_sub, I_mul, I_neg, I_ofNat, Option.bind_some, kIn, I_l0, I_l1, I_l2, I_l3, I_l4, I_l5, I_l6, I_l8, I_l9, I_l10, I_l11, I_l32, I_l40, I_l43, I_l44, I_l45, I_l48, I_l49, I_l57, I_l58, I_l60, I_l61, I_l62, I_l79, I_l80, I_l100, I_l120, I_l180, I_l200, I_l240, I_l300, I_l360, I_l361, I_l362, I_l363, I_l364, I_l365, I_l485, I_l605, I_l1999, I_l2000]
            rw [hY, f9_isWithin (by omega), f9_isWithin (by omega), if_pos qx, if_pos qy, e1, f0_lettersOf (n := n1) (by omega), at0_in q, f0_put (n := n1) (by omega)]
            simp (disch := omega) only [if_true, if_false, I_add, I_sub, I_mul, I_neg, I_ofNat, Option.bind_some, kIn, I_l0, I_l1, I_l2, I_l3, I_l4, I_l5, I_l6, I_l8, I_l9, I_l10, I_l11, I_l32, I_l40, I_l43, I_l44, I_l45, I_l48, I_l49, I_l57, I_l58, I_l60, I_l61, I_l62, I_l79, I_l80, I_l100, I_l120, I_l180, I_l200, I_l240, I_l300, I_l360, I_l361, I_l362, I_l363, I_l364, I_l365, I_l485, I_l605, I_l1999, I_l2000, I_eq, if_pos, if_neg]
          · exact ⟨c0, l0, o0, n0, c1, _, _, n1, L, R, g, rfl, k0, okB_set qx qy k1, kM, rB_setO (m := n1) (by omega) b0.2 (by omega) r0, rB_set (by omega) b1.2 q r1, rM_set (by omega) kM.1.2 (by omega) rm⟩
      · refine ⟨I (-2), cz l0, cz o0, cz l1, cz o1, k, 0, s0, s1, s2, s3, s4, V, W, ?_, ?_, hS, Or.inl ⟨rfl, hH⟩⟩
        · unfold pX9_setVerse
          simp only [if_true, if_false, I_add, I_sub, I_mul, I_neg, I_ofNat, Option.bind_some, kIn, I_l0, I_l1, I_l2, I_l3, I_l4, I_l5, I_l6, I_l8, I_l9, I_l10, I_l11, I_l32, I_l40, I_l43, I_l44, I_l45, I_l48, I_l49, I_l57, I_l58, I_l60, I_l61, I_l62, I_l79, I_l80, I_l100, I_l120, I_l180, I_l200, I_l240, I_l300, I_l360, I_l361, I_l362, I_l363, I_l364, I_l365, I_l485, I_l605, I_l1999, I_l2000]
          rw [hY, f9_isWithin (by omega), f9_isWithin (by omega), if_pos qx, if_neg qy]
          simp (disch := omega) only [if_true, if_false, I_add, I_sub, I_mul, I_neg, I_ofNat, Option.bind_some, kIn, I_l0, I_l1, I_l2, I_l3, I_l4, I_l5, I_l6, I_l8, I_l9, I_l10, I_l11, I_l32, I_l40, I_l43, I_l44, I_l45, I_l48, I_l49, I_l57, I_l58, I_l60, I_l61, I_l62, I_l79, I_l80, I_l100, I_l120, I_l180, I_l200, I_l240, I_l300, I_l360, I_l361, I_l362, I_l363, I_l364, I_l365, I_l485, I_l605, I_l1999, I_l2000, I_eq, if_pos, if_neg]
        · unfold pX10_setVerse
          simp only [if_true, if_false, I_add, I_sub, I_mul, I_neg, I_ofNat, Option.bind_some, kIn, I_l0, I_l1, I_l2, I_l3, I_l4, I_l5, I_l6, I_l8, I_l9, I_l10, I_l11, I_l32, I_l40, I_l43, I_l44, I_l45, I_l48, I_l49, I_l57, I_l58, I_l60, I_l61, I_l62, I_l79, I_l80, I_l100, I_l120, I_l180, I_l200, I_l240, I_l300, I_l360, I_l361, I_l362, I_l363, I_l364, I_l365, I_l485, I_l605, I_l1999, I_l2000]
          rw [hN, f10_in (by omega), f10_in (by omega), if_pos qx, if_neg qy]
          simp (disch := omega) only [if_true, if_false, I_add, I_sub, I_mul, I_neg, I_ofNat, Option.bind_some, kIn, I_l0, I_l1, I_l2, I_l3, I_l4, I_l5, I_l6, I_l8, I_l9, I_l10, I_l11, I_l32, I_l40, I_l43, I_l44, I_l45, I_l48, I_l49, I_l57, I_l58, I_l60, I_l61, I_l62, I_l79, I_l80, I_l100, I_l120, I_l180, I_l200, I_l240, I_l300, I_l360, I_l361, I_l362, I_l363, I_l364, I_l365, I_l485, I_l605, I_l1999, I_l2000, I_eq, if_pos, if_neg]
    · refine ⟨I (-2), cz l0, cz o0, cz l1, cz o1, k, 0, s0, s1, s2, s3, s4, V, W, ?_, ?_, hS, Or.inl ⟨rfl, hH⟩⟩
      · unfold pX9_setVerse
        simp only [if_true, if_false, I_add, I_sub, I_mul, I_neg, I_ofNat, Option.bind_some, kIn, I_l0, I_l1, I_l2, I_l3, I_l4, I_l5, I_l6, I_l8, I_l9, I_l10, I_l11, I_l32, I_l40, I_l43, I_l44, I_l45, I_l48, I_l49, I_l57, I_l58, I_l60, I_l61, I_l62, I_l79, I_l80, I_l100, I_l120, I_l180, I_l200, I_l240, I_l300, I_l360, I_l361, I_l362, I_l363, I_l364, I_l365, I_l485, I_l605, I_l1999, I_l2000]
        rw [hY, f9_isWithin (by omega), if_neg qx]
        simp (disch := omega) only [if_true, if_false, I_add, I_sub, I_mul, I_neg, I_ofNat, Option.bind_some, kIn, I_l0, I_l1, I_l2, I_l3, I_l4, I_l5, I_l6, I_l8, I_l9, I_l10, I_l11, I_l32, I_l40, I_l43, I_l44, I_l45, I_l48, I_l49, I_l57, I_l58, I_l60, I_l61, I_l62, I_l79, I_l80, I_l100, I_l120, I_l180, I_l200, I_l240, I_l300, I_l360, I_l361, I_l362, I_l363, I_l364, I_l365, I_l485, I_l605, I_l1999, I_l2000, I_eq, if_pos, if_neg]
      · unfold pX10_setVerse
        simp only [if_true, if_false, I_add, I_sub, I_mul, I_neg, I_ofNat, Option.bind_some, kIn, I_l0, I_l1, I_l2, I_l3, I_l4, I_l5, I_l6, I_l8, I_l9, I_l10, I_l11, I_l32, I_l40, I_l43, I_l44, I_l45, I_l48, I_l49, I_l57, I_l58, I_l60, I_l61, I_l62, I_l79, I_l80, I_l100, I_l120, I_l180, I_l200, I_l240, I_l300, I_l360, I_l361, I_l362, I_l363, I_l364, I_l365, I_l485, I_l605, I_l1999, I_l2000]
        rw [hN, f10_in (by omega), if_neg qx]
        simp (disch := omega) only [if_true, if_false, I_add, I_sub, I_mul, I_neg, I_ofNat, Option.bind_some, kIn, I_l0, I_l1, I_l2, I_l3, I_l4, I_l5, I_l6, I_l8, I_l9, I_l10, I_l11, I_l32, I_l40, I_l43, I_l44, I_l45, I_l48, I_l49, I_l57, I_l58, I_l60, I_l61, I_l62, I_l79, I_l80, I_l100, I_l120, I_l180, I_l200, I_l240, I_l300, I_l360, I_l361, I_l362, I_l363, I_l364, I_l365, I_l485, I_l605, I_l1999, I_l2000, I_eq, if_pos, if_neg]
  · refine ⟨I (-1), cz l0, cz o0, cz l1, cz o1, k, 0, s0, s1, s2, s3, s4, V, W, ?_, ?_, hS, Or.inl ⟨rfl, hH⟩⟩
    · unfold pX9_setVerse
      simp only [if_true, if_false, I_add, I_sub, I_mul, I_neg, I_ofNat, Option.bind_some, kIn, I_l0, I_l1, I_l2, I_l3, I_l4, I_l5, I_l6, I_l8, I_l9, I_l10, I_l11, I_l32, I_l40, I_l43, I_l44, I_l45, I_l48, I_l49, I_l57, I_l58, I_l60, I_l61, I_l62, I_l79, I_l80, I_l100, I_l120, I_l180, I_l200, I_l240, I_l300, I_l360, I_l361, I_l362, I_l363, I_l364, I_l365, I_l485, I_l605, I_l1999, I_l2000]
      rw [f9_isVerseN (by omega) q]
      simp (disch := omega) only [if_true, if_false, I_add, I_sub, I_mul, I_neg, I_ofNat, Option.bind_some, kIn, I_l0, I_l1, I_l2, I_l3, I_l4, I_l5, I_l6, I_l8, I_l9, I_l10, I_l11, I_l32, I_l40, I_l43, I_l44, I_l45, I_l48, I_l49, I_l57, I_l58, I_l60, I_l61, I_l62, I_l79, I_l80, I_l100, I_l120, I_l180, I_l200, I_l240, I_l300, I_l360, I_l361, I_l362, I_l363, I_l364, I_l365, I_l485, I_l605, I_l1999, I_l2000, I_eq, if_pos]
    · unfold pX10_setVerse
      simp only [if_true, if_false, I_add, I_sub, I_mul, I_neg, I_ofNat, Option.bind_some, kIn, I_l0, I_l1, I_l2, I_l3, I_l4, I_l5, I_l6, I_l8, I_l9, I_l10, I_l11, I_l32, I_l40, I_l43, I_l44, I_l45, I_l48, I_l49, I_l57, I_l58, I_l60, I_l61, I_l62, I_l79, I_l80, I_l100, I_l120, I_l180, I_l200, I_l240, I_l300, I_l360, I_l361, I_l362, I_l363, I_l364, I_l365, I_l485, I_l605, I_l1999, I_l2000]
      rw [f10_noVerseX (by omega) r0.1 r1.1 q]
      simp (disch := omega) only [if_true, if_false, I_add, I_sub, I_mul, I_neg, I_ofNat, Option.bind_some, kIn, I_l0, I_l1, I_l2, I_l3, I_l4, I_l5, I_l6, I_l8, I_l9, I_l10, I_l11, I_l32, I_l40, I_l43, I_l44, I_l45, I_l48, I_l49, I_l57, I_l58, I_l60, I_l61, I_l62, I_l79, I_l80, I_l100, I_l120, I_l180, I_l200, I_l240, I_l300, I_l360, I_l361, I_l362, I_l363, I_l364, I_l365, I_l485, I_l605, I_l1999, I_l2000, I_eq, if_neg]
end ACT4
