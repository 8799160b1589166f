-- queries on the state that the law sees (printed by wip/p24/fun/mk70.py)
def dB (x : Sg) (b : Int) (c l o : Int → Int) (n w : Int) : Prop := okB n c l o ∧ (10 ≤ w ∧ w ≤ 200) ∧ ((b = 0 ∧ x.1.1 = (cz c, cz l, cz o, I n) ∧ x.2.2.2.2.1 = I w ∧ ∃ m, (0 ≤ m ∧ m ≤ 60) ∧ x.1.2.1.2.2.2 = I m) ∨ (b = 1 ∧ x.1.2.1 = (cz c, cz l, cz o, I n) ∧ x.2.2.2.2.2.1 = I w ∧ ∃ m, (0 ≤ m ∧ m ≤ 60) ∧ x.1.1.2.2.2 = I m))
theorem dX.b0 {x : Sg} {c0 l0 o0 : Int → Int} {n0 : Int} {c1 l1 o1 : Int → Int} {n1 : Int} {L R : Int → Int} {g k w0 w1 ph h : Int} (d : dX x c0 l0 o0 n0 c1 l1 o1 n1 L R g k w0 w1 ph h) : dB x 0 c0 l0 o0 n0 w0 := by
  obtain ⟨⟨⟨v0, v1, v2, v3⟩, ⟨v4, v5, v6, v7⟩, v8, v9, v10⟩, ⟨a0, s0, s1, s2, s3, s4⟩, tx, nn, ⟨y0, y1, y2, y3⟩⟩ := x
  obtain ⟨e, ey, k0, k1, kM, hA, hw0, hw1, hph, hh⟩ := d
  simp only [Prod.mk.injEq] at e ey
  obtain ⟨⟨rfl, rfl, rfl, rfl⟩, ⟨rfl, rfl, rfl, rfl⟩, rfl, rfl, rfl⟩ := e
  obtain ⟨rfl, rfl, rfl, rfl⟩ := ey
  have hg := kM.1
  have b0 := k0.1
  have b1 := k1.1
  exact ⟨k0, hw0, Or.inl ⟨rfl, rfl, rfl, n1, b1, rfl⟩⟩
theorem dX.b1 {x : Sg} {c0 l0 o0 : Int → Int} {n0 : Int} {c1 l1 o1 : Int → Int} {n1 : Int} {L R : Int → Int} {g k w0 w1 ph h : Int} (d : dX x c0 l0 o0 n0 c1 l1 o1 n1 L R g k w0 w1 ph h) : dB x 1 c1 l1 o1 n1 w1 := by
  obtain ⟨⟨⟨v0, v1, v2, v3⟩, ⟨v4, v5, v6, v7⟩, v8, v9, v10⟩, ⟨a0, s0, s1, s2, s3, s4⟩, tx, nn, ⟨y0, y1, y2, y3⟩⟩ := x
  obtain ⟨e, ey, k0, k1, kM, hA, hw0, hw1, hph, hh⟩ := d
  simp only [Prod.mk.injEq] at e ey
  obtain ⟨⟨rfl, rfl, rfl, rfl⟩, ⟨rfl, rfl, rfl, rfl⟩, rfl, rfl, rfl⟩ := e
  obtain ⟨rfl, rfl, rfl, rfl⟩ := ey
  have hg := kM.1
  have b0 := k0.1
  have b1 := k1.1
  exact ⟨k1, hw1, Or.inr ⟨rfl, rfl, rfl, n0, b0, rfl⟩⟩
theorem q_verse {x : Sg} {b : Int} {c l o : Int → Int} {n w : Int} (d : dB x b c l o n w) {v y j : Int} (q : 0 ≤ v ∧ v < n) (hj : isF c (c v) n j) (hy : -2147483648 ≤ y ∧ y ≤ 2147483647) : sVerse x (I b) (I v) (I y) = some (I (vA (c v) (v - j + 1) (l v) (o v) ((l v + w - 1) / w) y)) := by
  obtain ⟨⟨⟨v0, v1, v2, v3⟩, ⟨v4, v5, v6, v7⟩, v8, v9, v10⟩, ⟨a0, s0, s1, s2, s3, s4⟩, tx, nn, ⟨y0, y1, y2, y3⟩⟩ := x
  obtain ⟨k0, hw, ⟨rfl, e, ew, m, hm, em⟩ | ⟨rfl, e, ew, m, hm, em⟩⟩ := d
  · simp only [Prod.mk.injEq] at e
    obtain ⟨rfl, rfl, rfl, rfl⟩ := e
    have ew2 : y0 = I w := ew
    have em2 : v7 = I m := em
    subst ew2; subst em2
    exact t_verse0 k0 hm (by omega) q hj hy
  · simp only [Prod.mk.injEq] at e
    obtain ⟨rfl, rfl, rfl, rfl⟩ := e
    have ew2 : y1 = I w := ew
    have em2 : v3 = I m := em
    subst ew2; subst em2
    exact t_verse1 k0 hm (by omega) q hj hy
theorem q_verseN {x : Sg} {b : Int} {c l o : Int → Int} {n w : Int} (d : dB x b c l o n w) {v : Int} {i3 : Int32} (hv : -2147483648 ≤ v ∧ v ≤ 2147483647) (q : ¬ (0 ≤ v ∧ v < n)) : sVerse x (I b) (I v) i3 = some (I (-1)) := by
  obtain ⟨⟨⟨v0, v1, v2, v3⟩, ⟨v4, v5, v6, v7⟩, v8, v9, v10⟩, ⟨a0, s0, s1, s2, s3, s4⟩, tx, nn, ⟨y0, y1, y2, y3⟩⟩ := x
  obtain ⟨k0, hw, ⟨rfl, e, ew, m, hm, em⟩ | ⟨rfl, e, ew, m, hm, em⟩⟩ := d
  · simp only [Prod.mk.injEq] at e
    obtain ⟨rfl, rfl, rfl, rfl⟩ := e
    have ew2 : y0 = I w := ew
    have em2 : v7 = I m := em
    subst ew2; subst em2
    exact t_verseN k0.1 hm (by omega) hv (by omega)
  · simp only [Prod.mk.injEq] at e
    obtain ⟨rfl, rfl, rfl, rfl⟩ := e
    have ew2 : y1 = I w := ew
    have em2 : v3 = I m := em
    subst ew2; subst em2
    exact t_verseN hm k0.1 (by omega) hv (by omega)
theorem q_chapter {x : Sg} {b : Int} {c l o : Int → Int} {n w : Int} (d : dB x b c l o n w) {z y j : Int} (q2 : 1 ≤ z ∧ z ≤ at0 c n (n - 1)) (hj : isF c z n j) (hy : -2147483648 ≤ y ∧ y ≤ 2147483647) : sChapter x (I b) (I z) (I y) = some (I (cA j (cnt c z n) (cns c l z n) y)) := by
  obtain ⟨⟨⟨v0, v1, v2, v3⟩, ⟨v4, v5, v6, v7⟩, v8, v9, v10⟩, ⟨a0, s0, s1, s2, s3, s4⟩, tx, nn, ⟨y0, y1, y2, y3⟩⟩ := x
  obtain ⟨k0, hw, ⟨rfl, e, ew, m, hm, em⟩ | ⟨rfl, e, ew, m, hm, em⟩⟩ := d
  · simp only [Prod.mk.injEq] at e
    obtain ⟨rfl, rfl, rfl, rfl⟩ := e
    have ew2 : y0 = I w := ew
    have em2 : v7 = I m := em
    subst ew2; subst em2
    exact t_chapter0 k0 q2 hj hy
  · simp only [Prod.mk.injEq] at e
    obtain ⟨rfl, rfl, rfl, rfl⟩ := e
    have ew2 : y1 = I w := ew
    have em2 : v3 = I m := em
    subst ew2; subst em2
    exact t_chapter1 k0 q2 hj hy
theorem q_chapterN {x : Sg} {b : Int} {c l o : Int → Int} {n w : Int} (d : dB x b c l o n w) {z : Int} {i3 : Int32} (hz : -2147483648 ≤ z ∧ z ≤ 2147483647) (q2 : ¬ (1 ≤ z ∧ z ≤ at0 c n (n - 1))) : sChapter x (I b) (I z) i3 = some (I (-1)) := by
  obtain ⟨⟨⟨v0, v1, v2, v3⟩, ⟨v4, v5, v6, v7⟩, v8, v9, v10⟩, ⟨a0, s0, s1, s2, s3, s4⟩, tx, nn, ⟨y0, y1, y2, y3⟩⟩ := x
  obtain ⟨k0, hw, ⟨rfl, e, ew, m, hm, em⟩ | ⟨rfl, e, ew, m, hm, em⟩⟩ := d
  · simp only [Prod.mk.injEq] at e
    obtain ⟨rfl, rfl, rfl, rfl⟩ := e
    have ew2 : y0 = I w := ew
    have em2 : v7 = I m := em
    subst ew2; subst em2
    exact t_chapter0N k0 hz q2
  · simp only [Prod.mk.injEq] at e
    obtain ⟨rfl, rfl, rfl, rfl⟩ := e
    have ew2 : y1 = I w := ew
    have em2 : v3 = I m := em
    subst ew2; subst em2
    exact t_chapter1N k0 hz q2
theorem q_verse2 {x : Sg} {c0 l0 o0 : Int → Int} {n0 : Int} {c1 l1 o1 : Int → Int} {n1 : Int} {L R : Int → Int} {g k w0 w1 ph h : Int} (d : dX x c0 l0 o0 n0 c1 l1 o1 n1 L R g k w0 w1 ph h) {i2 i3 : Int32} : sVerse x (I 2) i2 i3 = some (I (-1)) := by
  obtain ⟨⟨⟨v0, v1, v2, v3⟩, ⟨v4, v5, v6, v7⟩, v8, v9, v10⟩, ⟨a0, s0, s1, s2, s3, s4⟩, tx, nn, ⟨y0, y1, y2, y3⟩⟩ := x
  obtain ⟨e, ey, k0, k1, kM, hA, hw0, hw1, hph, hh⟩ := d
  simp only [Prod.mk.injEq] at e ey
  obtain ⟨⟨rfl, rfl, rfl, rfl⟩, ⟨rfl, rfl, rfl, rfl⟩, rfl, rfl, rfl⟩ := e
  obtain ⟨rfl, rfl, rfl, rfl⟩ := ey
  have hg := kM.1
  have b0 := k0.1
  have b1 := k1.1
  obtain ⟨v, hv, rfl⟩ := I_of i2
  exact t_verseN b0 b1 (by omega) hv (by omega)
theorem q_count {x : Sg} {c0 l0 o0 : Int → Int} {n0 : Int} {c1 l1 o1 : Int → Int} {n1 : Int} {L R : Int → Int} {g k w0 w1 ph h : Int} (d : dX x c0 l0 o0 n0 c1 l1 o1 n1 L R g k w0 w1 ph h) {y : Int} (hy : -2147483648 ≤ y ∧ y ≤ 2147483647) : sCount x (I y) = some (I (nA (at0 c0 n0 (n0 - 1)) (at0 c1 n1 (n1 - 1)) n0 n1 g (ksm L R 0 g) (ksm L R 1 g) (ksm L R 2 g) (ksm L R 3 g) (pgC (hgt c0 l0 c1 l1 L R w0 w1 h) (nts o0 o1 L R) ph g) (Sm (emp c0 l0 c1 l1 L R w0 w1 h) g) k y)) := by
  obtain ⟨⟨⟨v0, v1, v2, v3⟩, ⟨v4, v5, v6, v7⟩, v8, v9, v10⟩, ⟨a0, s0, s1, s2, s3, s4⟩, tx, nn, ⟨y0, y1, y2, y3⟩⟩ := x
  obtain ⟨e, ey, k0, k1, kM, hA, hw0, hw1, hph, hh⟩ := d
  simp only [Prod.mk.injEq] at e ey
  obtain ⟨⟨rfl, rfl, rfl, rfl⟩, ⟨rfl, rfl, rfl, rfl⟩, rfl, rfl, rfl⟩ := e
  obtain ⟨rfl, rfl, rfl, rfl⟩ := ey
  have hg := kM.1
  have b0 := k0.1
  have b1 := k1.1
  have hk1 : a0 = I k := hA.1
  subst hk1
  exact nCount.s (fun x4 x5 x6 x7 x8 x9 x10 => t_count k0 k1 kM (by omega) (by omega) hh (by omega) x4 x5 x6 x7 x8 x9 x10 hy)
theorem q_group {x : Sg} {c0 l0 o0 : Int → Int} {n0 : Int} {c1 l1 o1 : Int → Int} {n1 : Int} {L R : Int → Int} {g k w0 w1 ph h : Int} (d : dX x c0 l0 o0 n0 c1 l1 o1 n1 L R g k w0 w1 ph h) {p y : Int} (q : 0 ≤ p ∧ p < g) (hy : -2147483648 ≤ y ∧ y ≤ 2147483647) : sGroup x (I p) (I y) = some (I (gA (knd (L p) (R p)) (Sm L p) (L p) (Sm R p) (R p) ((hgt c0 l0 c1 l1 L R w0 w1 h) p) (pgP (hgt c0 l0 c1 l1 L R w0 w1 h) (nts o0 o1 L R) ph p) (pgL (hgt c0 l0 c1 l1 L R w0 w1 h) (nts o0 o1 L R) ph p) ((nts o0 o1 L R) p) y)) := by
  obtain ⟨⟨⟨v0, v1, v2, v3⟩, ⟨v4, v5, v6, v7⟩, v8, v9, v10⟩, ⟨a0, s0, s1, s2, s3, s4⟩, tx, nn, ⟨y0, y1, y2, y3⟩⟩ := x
  obtain ⟨e, ey, k0, k1, kM, hA, hw0, hw1, hph, hh⟩ := d
  simp only [Prod.mk.injEq] at e ey
  obtain ⟨⟨rfl, rfl, rfl, rfl⟩, ⟨rfl, rfl, rfl, rfl⟩, rfl, rfl, rfl⟩ := e
  obtain ⟨rfl, rfl, rfl, rfl⟩ := ey
  have hg := kM.1
  have b0 := k0.1
  have b1 := k1.1
  exact nGroup.s (fun x4 x5 x6 x7 x8 x9 x10 => t_group k0 k1 kM (by omega) (by omega) hh (by omega) x4 x5 x6 x7 x8 x9 x10 q hy)
theorem q_groupN {x : Sg} {c0 l0 o0 : Int → Int} {n0 : Int} {c1 l1 o1 : Int → Int} {n1 : Int} {L R : Int → Int} {g k w0 w1 ph h : Int} (d : dX x c0 l0 o0 n0 c1 l1 o1 n1 L R g k w0 w1 ph h) {p : Int} {i2 : Int32} (hp : -2147483648 ≤ p ∧ p ≤ 2147483647) (q : ¬ (0 ≤ p ∧ p < g)) : sGroup x (I p) i2 = some (I (-1)) := by
  obtain ⟨⟨⟨v0, v1, v2, v3⟩, ⟨v4, v5, v6, v7⟩, v8, v9, v10⟩, ⟨a0, s0, s1, s2, s3, s4⟩, tx, nn, ⟨y0, y1, y2, y3⟩⟩ := x
  obtain ⟨e, ey, k0, k1, kM, hA, hw0, hw1, hph, hh⟩ := d
  simp only [Prod.mk.injEq] at e ey
  obtain ⟨⟨rfl, rfl, rfl, rfl⟩, ⟨rfl, rfl, rfl, rfl⟩, rfl, rfl, rfl⟩ := e
  obtain ⟨rfl, rfl, rfl, rfl⟩ := ey
  have hg := kM.1
  have b0 := k0.1
  have b1 := k1.1
  exact nGroup.s (fun x4 x5 x6 x7 x8 x9 x10 => t_groupN k0 k1 kM (by omega) (by omega) hh (by omega) x4 x5 x6 x7 x8 x9 x10 hp q)
theorem q_pageN {x : Sg} {c0 l0 o0 : Int → Int} {n0 : Int} {c1 l1 o1 : Int → Int} {n1 : Int} {L R : Int → Int} {g k w0 w1 ph h : Int} (d : dX x c0 l0 o0 n0 c1 l1 o1 n1 L R g k w0 w1 ph h) {p : Int} {i2 : Int32} (hp : -2147483648 ≤ p ∧ p < 0) : sPage x (I p) i2 = some (I (-2)) := by
  obtain ⟨⟨⟨v0, v1, v2, v3⟩, ⟨v4, v5, v6, v7⟩, v8, v9, v10⟩, ⟨a0, s0, s1, s2, s3, s4⟩, tx, nn, ⟨y0, y1, y2, y3⟩⟩ := x
  obtain ⟨e, ey, k0, k1, kM, hA, hw0, hw1, hph, hh⟩ := d
  simp only [Prod.mk.injEq] at e ey
  obtain ⟨⟨rfl, rfl, rfl, rfl⟩, ⟨rfl, rfl, rfl, rfl⟩, rfl, rfl, rfl⟩ := e
  obtain ⟨rfl, rfl, rfl, rfl⟩ := ey
  have hg := kM.1
  have b0 := k0.1
  have b1 := k1.1
  exact nPage.s (fun x4 x5 x6 x7 x8 x9 x10 => t_pageN k0 k1 kM (by omega) (by omega) hh (by omega) x4 x5 x6 x7 x8 x9 x10 hp)
theorem q_pageW {x : Sg} {c0 l0 o0 : Int → Int} {n0 : Int} {c1 l1 o1 : Int → Int} {n1 : Int} {L R : Int → Int} {g k w0 w1 ph h : Int} (d : dX x c0 l0 o0 n0 c1 l1 o1 n1 L R g k w0 w1 ph h) {p y : Int} (hp : 0 ≤ p ∧ p ≤ 2147483647) (hy : -2147483648 ≤ y ∧ y ≤ 2147483647) (q2 : ¬ (0 ≤ y ∧ y ≤ 4)) : sPage x (I p) (I y) = some (I (-2)) := by
  obtain ⟨⟨⟨v0, v1, v2, v3⟩, ⟨v4, v5, v6, v7⟩, v8, v9, v10⟩, ⟨a0, s0, s1, s2, s3, s4⟩, tx, nn, ⟨y0, y1, y2, y3⟩⟩ := x
  obtain ⟨e, ey, k0, k1, kM, hA, hw0, hw1, hph, hh⟩ := d
  simp only [Prod.mk.injEq] at e ey
  obtain ⟨⟨rfl, rfl, rfl, rfl⟩, ⟨rfl, rfl, rfl, rfl⟩, rfl, rfl, rfl⟩ := e
  obtain ⟨rfl, rfl, rfl, rfl⟩ := ey
  have hg := kM.1
  have b0 := k0.1
  have b1 := k1.1
  exact nPage.s (fun x4 x5 x6 x7 x8 x9 x10 => t_pageW k0 k1 kM (by omega) (by omega) hh (by omega) x4 x5 x6 x7 x8 x9 x10 hp hy q2)
theorem q_pageE {x : Sg} {c0 l0 o0 : Int → Int} {n0 : Int} {c1 l1 o1 : Int → Int} {n1 : Int} {L R : Int → Int} {g k w0 w1 ph h : Int} (d : dX x c0 l0 o0 n0 c1 l1 o1 n1 L R g k w0 w1 ph h) {p y : Int} (hp : pgC (hgt c0 l0 c1 l1 L R w0 w1 h) (nts o0 o1 L R) ph g ≤ p ∧ p ≤ 2147483647) (q2 : 0 ≤ y ∧ y ≤ 4) : sPage x (I p) (I y) = some (I (-5)) := by
  obtain ⟨⟨⟨v0, v1, v2, v3⟩, ⟨v4, v5, v6, v7⟩, v8, v9, v10⟩, ⟨a0, s0, s1, s2, s3, s4⟩, tx, nn, ⟨y0, y1, y2, y3⟩⟩ := x
  obtain ⟨e, ey, k0, k1, kM, hA, hw0, hw1, hph, hh⟩ := d
  simp only [Prod.mk.injEq] at e ey
  obtain ⟨⟨rfl, rfl, rfl, rfl⟩, ⟨rfl, rfl, rfl, rfl⟩, rfl, rfl, rfl⟩ := e
  obtain ⟨rfl, rfl, rfl, rfl⟩ := ey
  have hg := kM.1
  have b0 := k0.1
  have b1 := k1.1
  exact nPage.s (fun x4 x5 x6 x7 x8 x9 x10 => t_pageE k0 k1 kM (by omega) (by omega) hh (by omega) x4 x5 x6 x7 x8 x9 x10 hp q2)
theorem q_page {x : Sg} {c0 l0 o0 : Int → Int} {n0 : Int} {c1 l1 o1 : Int → Int} {n1 : Int} {L R : Int → Int} {g k w0 w1 ph h : Int} (d : dX x c0 l0 o0 n0 c1 l1 o1 n1 L R g k w0 w1 ph h) {p y j j2 : Int} (hp : 0 ≤ p) (q2 : 0 ≤ y ∧ y ≤ 4) (hj : isF (pgP (hgt c0 l0 c1 l1 L R w0 w1 h) (nts o0 o1 L R) ph) p g j) (hj2 : isL (pgP (hgt c0 l0 c1 l1 L R w0 w1 h) (nts o0 o1 L R) ph) p g j2) : sPage x (I p) (I y) = some (I (pA j j2 (psm (pgP (hgt c0 l0 c1 l1 L R w0 w1 h) (nts o0 o1 L R) ph) (hgt c0 l0 c1 l1 L R w0 w1 h) p g) (wl (psm (pgP (hgt c0 l0 c1 l1 L R w0 w1 h) (nts o0 o1 L R) ph) (nts o0 o1 L R) p g)) ph y)) := by
  obtain ⟨⟨⟨v0, v1, v2, v3⟩, ⟨v4, v5, v6, v7⟩, v8, v9, v10⟩, ⟨a0, s0, s1, s2, s3, s4⟩, tx, nn, ⟨y0, y1, y2, y3⟩⟩ := x
  obtain ⟨e, ey, k0, k1, kM, hA, hw0, hw1, hph, hh⟩ := d
  simp only [Prod.mk.injEq] at e ey
  obtain ⟨⟨rfl, rfl, rfl, rfl⟩, ⟨rfl, rfl, rfl, rfl⟩, rfl, rfl, rfl⟩ := e
  obtain ⟨rfl, rfl, rfl, rfl⟩ := ey
  have hg := kM.1
  have b0 := k0.1
  have b1 := k1.1
  exact nPage.s (fun x4 x5 x6 x7 x8 x9 x10 => t_page k0 k1 kM (by omega) (by omega) hh (by omega) x4 x5 x6 x7 x8 x9 x10 hp q2 hj hj2)
theorem q_beside {x : Sg} {c0 l0 o0 : Int → Int} {n0 : Int} {c1 l1 o1 : Int → Int} {n1 : Int} {L R : Int → Int} {g k w0 w1 ph h : Int} (d : dX x c0 l0 o0 n0 c1 l1 o1 n1 L R g k w0 w1 ph h) {b v y j : Int} (hy : -2147483648 ≤ y ∧ y ≤ 2147483647) (q : (b = 0 ∧ 0 ≤ v ∧ v < n0) ∨ (b = 1 ∧ 0 ≤ v ∧ v < n1)) (j0 : 0 ≤ j ∧ j < g) (j1 : Sm (sel b L R) j ≤ v) (j2 : v < Sm (sel b L R) (j + 1)) : sBeside x (I b) (I v) (I y) = some (I (bA j (Sm (sel (1 - b) L R) j) (sel (1 - b) L R j) y)) := by
  obtain ⟨⟨⟨v0, v1, v2, v3⟩, ⟨v4, v5, v6, v7⟩, v8, v9, v10⟩, ⟨a0, s0, s1, s2, s3, s4⟩, tx, nn, ⟨y0, y1, y2, y3⟩⟩ := x
  obtain ⟨e, ey, k0, k1, kM, hA, hw0, hw1, hph, hh⟩ := d
  simp only [Prod.mk.injEq] at e ey
  obtain ⟨⟨rfl, rfl, rfl, rfl⟩, ⟨rfl, rfl, rfl, rfl⟩, rfl, rfl, rfl⟩ := e
  obtain ⟨rfl, rfl, rfl, rfl⟩ := ey
  have hg := kM.1
  have b0 := k0.1
  have b1 := k1.1
  exact t_beside b0 b1 kM hy q j0 j1 j2
theorem q_besideN {x : Sg} {c0 l0 o0 : Int → Int} {n0 : Int} {c1 l1 o1 : Int → Int} {n1 : Int} {L R : Int → Int} {g k w0 w1 ph h : Int} (d : dX x c0 l0 o0 n0 c1 l1 o1 n1 L R g k w0 w1 ph h) {b v : Int} {i3 : Int32} (hb : -2147483648 ≤ b ∧ b ≤ 2147483647) (hv : -2147483648 ≤ v ∧ v ≤ 2147483647) (q : ¬ ((b = 0 ∧ 0 ≤ v ∧ v < n0) ∨ (b = 1 ∧ 0 ≤ v ∧ v < n1))) : sBeside x (I b) (I v) i3 = some (I (-1)) := by
  obtain ⟨⟨⟨v0, v1, v2, v3⟩, ⟨v4, v5, v6, v7⟩, v8, v9, v10⟩, ⟨a0, s0, s1, s2, s3, s4⟩, tx, nn, ⟨y0, y1, y2, y3⟩⟩ := x
  obtain ⟨e, ey, k0, k1, kM, hA, hw0, hw1, hph, hh⟩ := d
  simp only [Prod.mk.injEq] at e ey
  obtain ⟨⟨rfl, rfl, rfl, rfl⟩, ⟨rfl, rfl, rfl, rfl⟩, rfl, rfl, rfl⟩ := e
  obtain ⟨rfl, rfl, rfl, rfl⟩ := ey
  have hg := kM.1
  have b0 := k0.1
  have b1 := k1.1
  exact t_besideN b0 b1 hb hv q
theorem q_c0 {x : Sg} {c0 l0 o0 : Int → Int} {n0 : Int} {c1 l1 o1 : Int → Int} {n1 : Int} {L R : Int → Int} {g k w0 w1 ph h : Int} (d : dX x c0 l0 o0 n0 c1 l1 o1 n1 L R g k w0 w1 ph h) : sCount x (I 0) = some (I (at0 c0 n0 (n0 - 1))) := q_count d (y := 0) (by omega)
theorem q_c1 {x : Sg} {c0 l0 o0 : Int → Int} {n0 : Int} {c1 l1 o1 : Int → Int} {n1 : Int} {L R : Int → Int} {g k w0 w1 ph h : Int} (d : dX x c0 l0 o0 n0 c1 l1 o1 n1 L R g k w0 w1 ph h) : sCount x (I 1) = some (I (at0 c1 n1 (n1 - 1))) := q_count d (y := 1) (by omega)
theorem q_c2 {x : Sg} {c0 l0 o0 : Int → Int} {n0 : Int} {c1 l1 o1 : Int → Int} {n1 : Int} {L R : Int → Int} {g k w0 w1 ph h : Int} (d : dX x c0 l0 o0 n0 c1 l1 o1 n1 L R g k w0 w1 ph h) : sCount x (I 2) = some (I (n0)) := q_count d (y := 2) (by omega)
theorem q_c3 {x : Sg} {c0 l0 o0 : Int → Int} {n0 : Int} {c1 l1 o1 : Int → Int} {n1 : Int} {L R : Int → Int} {g k w0 w1 ph h : Int} (d : dX x c0 l0 o0 n0 c1 l1 o1 n1 L R g k w0 w1 ph h) : sCount x (I 3) = some (I (n1)) := q_count d (y := 3) (by omega)
theorem q_c4 {x : Sg} {c0 l0 o0 : Int → Int} {n0 : Int} {c1 l1 o1 : Int → Int} {n1 : Int} {L R : Int → Int} {g k w0 w1 ph h : Int} (d : dX x c0 l0 o0 n0 c1 l1 o1 n1 L R g k w0 w1 ph h) : sCount x (I 4) = some (I (g)) := q_count d (y := 4) (by omega)
theorem q_c5 {x : Sg} {c0 l0 o0 : Int → Int} {n0 : Int} {c1 l1 o1 : Int → Int} {n1 : Int} {L R : Int → Int} {g k w0 w1 ph h : Int} (d : dX x c0 l0 o0 n0 c1 l1 o1 n1 L R g k w0 w1 ph h) : sCount x (I 5) = some (I (ksm L R 0 g)) := q_count d (y := 5) (by omega)
theorem q_c6 {x : Sg} {c0 l0 o0 : Int → Int} {n0 : Int} {c1 l1 o1 : Int → Int} {n1 : Int} {L R : Int → Int} {g k w0 w1 ph h : Int} (d : dX x c0 l0 o0 n0 c1 l1 o1 n1 L R g k w0 w1 ph h) : sCount x (I 6) = some (I (ksm L R 1 g)) := q_count d (y := 6) (by omega)
theorem q_c7 {x : Sg} {c0 l0 o0 : Int → Int} {n0 : Int} {c1 l1 o1 : Int → Int} {n1 : Int} {L R : Int → Int} {g k w0 w1 ph h : Int} (d : dX x c0 l0 o0 n0 c1 l1 o1 n1 L R g k w0 w1 ph h) : sCount x (I 7) = some (I (ksm L R 2 g)) := q_count d (y := 7) (by omega)
theorem q_c8 {x : Sg} {c0 l0 o0 : Int → Int} {n0 : Int} {c1 l1 o1 : Int → Int} {n1 : Int} {L R : Int → Int} {g k w0 w1 ph h : Int} (d : dX x c0 l0 o0 n0 c1 l1 o1 n1 L R g k w0 w1 ph h) : sCount x (I 8) = some (I (ksm L R 3 g)) := q_count d (y := 8) (by omega)
theorem q_c9 {x : Sg} {c0 l0 o0 : Int → Int} {n0 : Int} {c1 l1 o1 : Int → Int} {n1 : Int} {L R : Int → Int} {g k w0 w1 ph h : Int} (d : dX x c0 l0 o0 n0 c1 l1 o1 n1 L R g k w0 w1 ph h) : sCount x (I 9) = some (I (pgC (hgt c0 l0 c1 l1 L R w0 w1 h) (nts o0 o1 L R) ph g)) := q_count d (y := 9) (by omega)
theorem q_c10 {x : Sg} {c0 l0 o0 : Int → Int} {n0 : Int} {c1 l1 o1 : Int → Int} {n1 : Int} {L R : Int → Int} {g k w0 w1 ph h : Int} (d : dX x c0 l0 o0 n0 c1 l1 o1 n1 L R g k w0 w1 ph h) : sCount x (I 10) = some (I (Sm (emp c0 l0 c1 l1 L R w0 w1 h) g)) := q_count d (y := 10) (by omega)
theorem q_c11 {x : Sg} {c0 l0 o0 : Int → Int} {n0 : Int} {c1 l1 o1 : Int → Int} {n1 : Int} {L R : Int → Int} {g k w0 w1 ph h : Int} (d : dX x c0 l0 o0 n0 c1 l1 o1 n1 L R g k w0 w1 ph h) : sCount x (I 11) = some (I (k)) := q_count d (y := 11) (by omega)
theorem q_c12 {x : Sg} {c0 l0 o0 : Int → Int} {n0 : Int} {c1 l1 o1 : Int → Int} {n1 : Int} {L R : Int → Int} {g k w0 w1 ph h : Int} (d : dX x c0 l0 o0 n0 c1 l1 o1 n1 L R g k w0 w1 ph h) : sCount x (I 12) = some (I (-2)) := q_count d (y := 12) (by omega)
theorem q_cN {x : Sg} {c0 l0 o0 : Int → Int} {n0 : Int} {c1 l1 o1 : Int → Int} {n1 : Int} {L R : Int → Int} {g k w0 w1 ph h : Int} (d : dX x c0 l0 o0 n0 c1 l1 o1 n1 L R g k w0 w1 ph h) : sCount x (I (-1)) = some (I (-2)) := q_count d (y := -1) (by omega)
theorem q_g0 {x : Sg} {c0 l0 o0 : Int → Int} {n0 : Int} {c1 l1 o1 : Int → Int} {n1 : Int} {L R : Int → Int} {g k w0 w1 ph h : Int} (d : dX x c0 l0 o0 n0 c1 l1 o1 n1 L R g k w0 w1 ph h) {p : Int} (q : 0 ≤ p ∧ p < g) : sGroup x (I p) (I 0) = some (I (knd (L p) (R p))) := q_group d (y := 0) q (by omega)
theorem q_g1 {x : Sg} {c0 l0 o0 : Int → Int} {n0 : Int} {c1 l1 o1 : Int → Int} {n1 : Int} {L R : Int → Int} {g k w0 w1 ph h : Int} (d : dX x c0 l0 o0 n0 c1 l1 o1 n1 L R g k w0 w1 ph h) {p : Int} (q : 0 ≤ p ∧ p < g) : sGroup x (I p) (I 1) = some (I (if L p = 0 then -5 else Sm L p)) := q_group d (y := 1) q (by omega)
theorem q_g2 {x : Sg} {c0 l0 o0 : Int → Int} {n0 : Int} {c1 l1 o1 : Int → Int} {n1 : Int} {L R : Int → Int} {g k w0 w1 ph h : Int} (d : dX x c0 l0 o0 n0 c1 l1 o1 n1 L R g k w0 w1 ph h) {p : Int} (q : 0 ≤ p ∧ p < g) : sGroup x (I p) (I 2) = some (I (L p)) := q_group d (y := 2) q (by omega)
theorem q_g3 {x : Sg} {c0 l0 o0 : Int → Int} {n0 : Int} {c1 l1 o1 : Int → Int} {n1 : Int} {L R : Int → Int} {g k w0 w1 ph h : Int} (d : dX x c0 l0 o0 n0 c1 l1 o1 n1 L R g k w0 w1 ph h) {p : Int} (q : 0 ≤ p ∧ p < g) : sGroup x (I p) (I 3) = some (I (if R p = 0 then -5 else Sm R p)) := q_group d (y := 3) q (by omega)
theorem q_g4 {x : Sg} {c0 l0 o0 : Int → Int} {n0 : Int} {c1 l1 o1 : Int → Int} {n1 : Int} {L R : Int → Int} {g k w0 w1 ph h : Int} (d : dX x c0 l0 o0 n0 c1 l1 o1 n1 L R g k w0 w1 ph h) {p : Int} (q : 0 ≤ p ∧ p < g) : sGroup x (I p) (I 4) = some (I (R p)) := q_group d (y := 4) q (by omega)
theorem q_g5 {x : Sg} {c0 l0 o0 : Int → Int} {n0 : Int} {c1 l1 o1 : Int → Int} {n1 : Int} {L R : Int → Int} {g k w0 w1 ph h : Int} (d : dX x c0 l0 o0 n0 c1 l1 o1 n1 L R g k w0 w1 ph h) {p : Int} (q : 0 ≤ p ∧ p < g) : sGroup x (I p) (I 5) = some (I (hgt c0 l0 c1 l1 L R w0 w1 h p)) := q_group d (y := 5) q (by omega)
theorem q_g6 {x : Sg} {c0 l0 o0 : Int → Int} {n0 : Int} {c1 l1 o1 : Int → Int} {n1 : Int} {L R : Int → Int} {g k w0 w1 ph h : Int} (d : dX x c0 l0 o0 n0 c1 l1 o1 n1 L R g k w0 w1 ph h) {p : Int} (q : 0 ≤ p ∧ p < g) : sGroup x (I p) (I 6) = some (I (pgP (hgt c0 l0 c1 l1 L R w0 w1 h) (nts o0 o1 L R) ph p)) := q_group d (y := 6) q (by omega)
theorem q_g7 {x : Sg} {c0 l0 o0 : Int → Int} {n0 : Int} {c1 l1 o1 : Int → Int} {n1 : Int} {L R : Int → Int} {g k w0 w1 ph h : Int} (d : dX x c0 l0 o0 n0 c1 l1 o1 n1 L R g k w0 w1 ph h) {p : Int} (q : 0 ≤ p ∧ p < g) : sGroup x (I p) (I 7) = some (I (pgL (hgt c0 l0 c1 l1 L R w0 w1 h) (nts o0 o1 L R) ph p)) := q_group d (y := 7) q (by omega)
theorem q_g8 {x : Sg} {c0 l0 o0 : Int → Int} {n0 : Int} {c1 l1 o1 : Int → Int} {n1 : Int} {L R : Int → Int} {g k w0 w1 ph h : Int} (d : dX x c0 l0 o0 n0 c1 l1 o1 n1 L R g k w0 w1 ph h) {p : Int} (q : 0 ≤ p ∧ p < g) : sGroup x (I p) (I 8) = some (I (nts o0 o1 L R p)) := q_group d (y := 8) q (by omega)
theorem q_g9 {x : Sg} {c0 l0 o0 : Int → Int} {n0 : Int} {c1 l1 o1 : Int → Int} {n1 : Int} {L R : Int → Int} {g k w0 w1 ph h : Int} (d : dX x c0 l0 o0 n0 c1 l1 o1 n1 L R g k w0 w1 ph h) {p : Int} (q : 0 ≤ p ∧ p < g) : sGroup x (I p) (I 9) = some (I (-2)) := q_group d (y := 9) q (by omega)
theorem q_v0 {x : Sg} {b : Int} {c l o : Int → Int} {n w : Int} (d : dB x b c l o n w) {v j : Int} (q : 0 ≤ v ∧ v < n) (hj : isF c (c v) n j) : sVerse x (I b) (I v) (I 0) = some (I (c v)) := q_verse d (y := 0) q hj (by omega)
theorem q_v1 {x : Sg} {b : Int} {c l o : Int → Int} {n w : Int} (d : dB x b c l o n w) {v j : Int} (q : 0 ≤ v ∧ v < n) (hj : isF c (c v) n j) : sVerse x (I b) (I v) (I 1) = some (I (v - j + 1)) := q_verse d (y := 1) q hj (by omega)
theorem q_v2 {x : Sg} {b : Int} {c l o : Int → Int} {n w : Int} (d : dB x b c l o n w) {v j : Int} (q : 0 ≤ v ∧ v < n) (hj : isF c (c v) n j) : sVerse x (I b) (I v) (I 2) = some (I (l v)) := q_verse d (y := 2) q hj (by omega)
theorem q_v3 {x : Sg} {b : Int} {c l o : Int → Int} {n w : Int} (d : dB x b c l o n w) {v j : Int} (q : 0 ≤ v ∧ v < n) (hj : isF c (c v) n j) : sVerse x (I b) (I v) (I 3) = some (I (o v)) := q_verse d (y := 3) q hj (by omega)
theorem q_v4 {x : Sg} {b : Int} {c l o : Int → Int} {n w : Int} (d : dB x b c l o n w) {v j : Int} (q : 0 ≤ v ∧ v < n) (hj : isF c (c v) n j) : sVerse x (I b) (I v) (I 4) = some (I ((l v + w - 1) / w)) := q_verse d (y := 4) q hj (by omega)
theorem q_v5 {x : Sg} {b : Int} {c l o : Int → Int} {n w : Int} (d : dB x b c l o n w) {v j : Int} (q : 0 ≤ v ∧ v < n) (hj : isF c (c v) n j) : sVerse x (I b) (I v) (I 5) = some (I (-2)) := q_verse d (y := 5) q hj (by omega)
theorem q_h0 {x : Sg} {b : Int} {c l o : Int → Int} {n w : Int} (d : dB x b c l o n w) {z j : Int} (q2 : 1 ≤ z ∧ z ≤ at0 c n (n - 1)) (hj : isF c z n j) : sChapter x (I b) (I z) (I 0) = some (I (j)) := q_chapter d (y := 0) q2 hj (by omega)
theorem q_h1 {x : Sg} {b : Int} {c l o : Int → Int} {n w : Int} (d : dB x b c l o n w) {z j : Int} (q2 : 1 ≤ z ∧ z ≤ at0 c n (n - 1)) (hj : isF c z n j) : sChapter x (I b) (I z) (I 1) = some (I (cnt c z n)) := q_chapter d (y := 1) q2 hj (by omega)
theorem q_h2 {x : Sg} {b : Int} {c l o : Int → Int} {n w : Int} (d : dB x b c l o n w) {z j : Int} (q2 : 1 ≤ z ∧ z ≤ at0 c n (n - 1)) (hj : isF c z n j) : sChapter x (I b) (I z) (I 2) = some (I (cns c l z n)) := q_chapter d (y := 2) q2 hj (by omega)
theorem q_h3 {x : Sg} {b : Int} {c l o : Int → Int} {n w : Int} (d : dB x b c l o n w) {z j : Int} (q2 : 1 ≤ z ∧ z ≤ at0 c n (n - 1)) (hj : isF c z n j) : sChapter x (I b) (I z) (I 3) = some (I (-2)) := q_chapter d (y := 3) q2 hj (by omega)
theorem q_b0 {x : Sg} {c0 l0 o0 : Int → Int} {n0 : Int} {c1 l1 o1 : Int → Int} {n1 : Int} {L R : Int → Int} {g k w0 w1 ph h : Int} (d : dX x c0 l0 o0 n0 c1 l1 o1 n1 L R g k w0 w1 ph h) {b v j : Int} (q : (b = 0 ∧ 0 ≤ v ∧ v < n0) ∨ (b = 1 ∧ 0 ≤ v ∧ v < n1)) (j0 : 0 ≤ j ∧ j < g) (j1 : Sm (sel b L R) j ≤ v) (j2 : v < Sm (sel b L R) (j + 1)) : sBeside x (I b) (I v) (I 0) = some (I (j)) := q_beside d (y := 0) (by omega) q j0 j1 j2
theorem q_b1 {x : Sg} {c0 l0 o0 : Int → Int} {n0 : Int} {c1 l1 o1 : Int → Int} {n1 : Int} {L R : Int → Int} {g k w0 w1 ph h : Int} (d : dX x c0 l0 o0 n0 c1 l1 o1 n1 L R g k w0 w1 ph h) {b v j : Int} (q : (b = 0 ∧ 0 ≤ v ∧ v < n0) ∨ (b = 1 ∧ 0 ≤ v ∧ v < n1)) (j0 : 0 ≤ j ∧ j < g) (j1 : Sm (sel b L R) j ≤ v) (j2 : v < Sm (sel b L R) (j + 1)) : sBeside x (I b) (I v) (I 1) = some (I (if sel (1 - b) L R j = 0 then -5 else Sm (sel (1 - b) L R) j)) := q_beside d (y := 1) (by omega) q j0 j1 j2
theorem q_b2 {x : Sg} {c0 l0 o0 : Int → Int} {n0 : Int} {c1 l1 o1 : Int → Int} {n1 : Int} {L R : Int → Int} {g k w0 w1 ph h : Int} (d : dX x c0 l0 o0 n0 c1 l1 o1 n1 L R g k w0 w1 ph h) {b v j : Int} (q : (b = 0 ∧ 0 ≤ v ∧ v < n0) ∨ (b = 1 ∧ 0 ≤ v ∧ v < n1)) (j0 : 0 ≤ j ∧ j < g) (j1 : Sm (sel b L R) j ≤ v) (j2 : v < Sm (sel b L R) (j + 1)) : sBeside x (I b) (I v) (I 2) = some (I (if sel (1 - b) L R j = 0 then -5 else Sm (sel (1 - b) L R) j + sel (1 - b) L R j - 1)) := q_beside d (y := 2) (by omega) q j0 j1 j2
theorem q_b3 {x : Sg} {c0 l0 o0 : Int → Int} {n0 : Int} {c1 l1 o1 : Int → Int} {n1 : Int} {L R : Int → Int} {g k w0 w1 ph h : Int} (d : dX x c0 l0 o0 n0 c1 l1 o1 n1 L R g k w0 w1 ph h) {b v j : Int} (q : (b = 0 ∧ 0 ≤ v ∧ v < n0) ∨ (b = 1 ∧ 0 ≤ v ∧ v < n1)) (j0 : 0 ≤ j ∧ j < g) (j1 : Sm (sel b L R) j ≤ v) (j2 : v < Sm (sel b L R) (j + 1)) : sBeside x (I b) (I v) (I 3) = some (I (-2)) := q_beside d (y := 3) (by omega) q j0 j1 j2
theorem q_p0 {x : Sg} {c0 l0 o0 : Int → Int} {n0 : Int} {c1 l1 o1 : Int → Int} {n1 : Int} {L R : Int → Int} {g k w0 w1 ph h : Int} (d : dX x c0 l0 o0 n0 c1 l1 o1 n1 L R g k w0 w1 ph h) {p j j2 : Int} (hp : 0 ≤ p) (hj : isF (pgP (hgt c0 l0 c1 l1 L R w0 w1 h) (nts o0 o1 L R) ph) p g j) (hj2 : isL (pgP (hgt c0 l0 c1 l1 L R w0 w1 h) (nts o0 o1 L R) ph) p g j2) : sPage x (I p) (I 0) = some (I (j)) := q_page d (y := 0) hp (by omega) hj hj2
theorem q_p1 {x : Sg} {c0 l0 o0 : Int → Int} {n0 : Int} {c1 l1 o1 : Int → Int} {n1 : Int} {L R : Int → Int} {g k w0 w1 ph h : Int} (d : dX x c0 l0 o0 n0 c1 l1 o1 n1 L R g k w0 w1 ph h) {p j j2 : Int} (hp : 0 ≤ p) (hj : isF (pgP (hgt c0 l0 c1 l1 L R w0 w1 h) (nts o0 o1 L R) ph) p g j) (hj2 : isL (pgP (hgt c0 l0 c1 l1 L R w0 w1 h) (nts o0 o1 L R) ph) p g j2) : sPage x (I p) (I 1) = some (I (j2)) := q_page d (y := 1) hp (by omega) hj hj2
theorem q_p2 {x : Sg} {c0 l0 o0 : Int → Int} {n0 : Int} {c1 l1 o1 : Int → Int} {n1 : Int} {L R : Int → Int} {g k w0 w1 ph h : Int} (d : dX x c0 l0 o0 n0 c1 l1 o1 n1 L R g k w0 w1 ph h) {p j j2 : Int} (hp : 0 ≤ p) (hj : isF (pgP (hgt c0 l0 c1 l1 L R w0 w1 h) (nts o0 o1 L R) ph) p g j) (hj2 : isL (pgP (hgt c0 l0 c1 l1 L R w0 w1 h) (nts o0 o1 L R) ph) p g j2) : sPage x (I p) (I 2) = some (I (psm (pgP (hgt c0 l0 c1 l1 L R w0 w1 h) (nts o0 o1 L R) ph) (hgt c0 l0 c1 l1 L R w0 w1 h) p g)) := q_page d (y := 2) hp (by omega) hj hj2
theorem q_p3 {x : Sg} {c0 l0 o0 : Int → Int} {n0 : Int} {c1 l1 o1 : Int → Int} {n1 : Int} {L R : Int → Int} {g k w0 w1 ph h : Int} (d : dX x c0 l0 o0 n0 c1 l1 o1 n1 L R g k w0 w1 ph h) {p j j2 : Int} (hp : 0 ≤ p) (hj : isF (pgP (hgt c0 l0 c1 l1 L R w0 w1 h) (nts o0 o1 L R) ph) p g j) (hj2 : isL (pgP (hgt c0 l0 c1 l1 L R w0 w1 h) (nts o0 o1 L R) ph) p g j2) : sPage x (I p) (I 3) = some (I (wl (psm (pgP (hgt c0 l0 c1 l1 L R w0 w1 h) (nts o0 o1 L R) ph) (nts o0 o1 L R) p g))) := q_page d (y := 3) hp (by omega) hj hj2
theorem q_p4 {x : Sg} {c0 l0 o0 : Int → Int} {n0 : Int} {c1 l1 o1 : Int → Int} {n1 : Int} {L R : Int → Int} {g k w0 w1 ph h : Int} (d : dX x c0 l0 o0 n0 c1 l1 o1 n1 L R g k w0 w1 ph h) {p j j2 : Int} (hp : 0 ≤ p) (hj : isF (pgP (hgt c0 l0 c1 l1 L R w0 w1 h) (nts o0 o1 L R) ph) p g j) (hj2 : isL (pgP (hgt c0 l0 c1 l1 L R w0 w1 h) (nts o0 o1 L R) ph) p g j2) : sPage x (I p) (I 4) = some (I (if psm (pgP (hgt c0 l0 c1 l1 L R w0 w1 h) (nts o0 o1 L R) ph) (hgt c0 l0 c1 l1 L R w0 w1 h) p g + wl (psm (pgP (hgt c0 l0 c1 l1 L R w0 w1 h) (nts o0 o1 L R) ph) (nts o0 o1 L R) p g) ≤ ph then 0 else 1)) := q_page d (y := 4) hp (by omega) hj hj2
