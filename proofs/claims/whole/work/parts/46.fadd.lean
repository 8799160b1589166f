-- a chapter added
def exf (F : Int → Int) (n v : Int) : Int → Int := fun i => if i < n then F i else v
theorem exf_lo {F : Int → Int} {n v i : Int} (h : i < n) : exf F n v i = F i := if_pos h
theorem exf_hi {F : Int → Int} {n v i : Int} (h : n ≤ i) : exf F n v i = v := if_neg (by omega)
theorem Sm_exf {F : Int → Int} {n v k : Int} (hn : 0 ≤ n) (hk : 0 ≤ k) : Sm (exf F n v) (n + k) = Sm F n + v * k := by
  refine zind (P := fun k => Sm (exf F n v) (n + k) = Sm F n + v * k) ?_ (fun k hk ih => ?_) k hk
  · rw [Int.add_zero, Int.mul_zero, Int.add_zero]
    exact Sm_congr hn (fun i a b => exf_lo b)
  · rw [show n + (k + 1) = n + k + 1 by omega, Sm_s (by omega), ih, exf_hi (by omega), Int.mul_add, Int.mul_one]
    omega
theorem opn_at {F : Int → Int} {m u i : Int} (h : i < u) : opn F m u u i = F i := by
  unfold opn cpy
  split
  · exact if_neg (by omega)
  · rfl
theorem exf_up {F G : Int → Int} {n v k : Int} (hk : 0 ≤ k) (h : ∀ i, 0 ≤ i → i < n + k → G i = exf F n v i) : ∀ i, 0 ≤ i → i < n + (k + 1) → up (opn G 60 (n + k) (n + k)) (n + k) v i = exf F n v i := by
  intro i a b
  by_cases z : i = n + k
  · rw [up_at z, exf_hi (by omega)]
  · rw [up_ne z, opn_at (by omega)]
    exact h i a (by omega)
theorem exf_up2 {F G : Int → Int} {n v k : Int} (hk : 0 ≤ k) (h : ∀ i, 0 ≤ i → i < n + k → G i = exf F n v i) : ∀ i, 0 ≤ i → i < n + (k + 1) → up G (n + k) v i = exf F n v i := by
  intro i a b
  by_cases z : i = n + k
  · rw [up_at z, exf_hi (by omega)]
  · rw [up_ne z]
    exact h i a (by omega)
theorem f9_add0 {c l o L R : Int → Int} {n g v x ch : Int} {u0 u1 u2 : Nat → Int32} {u3 hk : Int32} {r : Nat} {t0 t1 t2 t3 t4 : vST} (hn : 0 ≤ n ∧ n + v ≤ 60) (hg : 0 ≤ g ∧ g + v ≤ 120) : ∀ (m : Nat) (cc ll oo A B : Int → Int) (j : Int), 0 ≤ j → j ≤ v → v - j < m → (∀ i, 0 ≤ i → i < n + j → cc i = exf c n ch i) → (∀ i, 0 ≤ i → i < n + j → ll i = exf l n x i) → (∀ i, 0 ≤ i → i < n + j → oo i = exf o n 0 i) → (∀ i, 0 ≤ i → i < g + j → A i = exf L g 1 i) → (∀ i, 0 ≤ i → i < g + j → B i = exf R g 0 i) → ∃ c2 l2 o2 A2 B2 : Int → Int, (∀ i, 0 ≤ i → i < n + v → c2 i = exf c n ch i) ∧ (∀ i, 0 ≤ i → i < n + v → l2 i = exf l n x i) ∧ (∀ i, 0 ≤ i → i < n + v → o2 i = exf o n 0 i) ∧ (∀ i, 0 ≤ i → i < g + v → A2 i = exf L g 1 i) ∧ (∀ i, 0 ≤ i → i < g + v → B2 i = exf R g 0 i) ∧ pX9_addChapter_L88 m (cz cc) (cz ll) (cz oo) (I (n + j)) u0 u1 u2 u3 (cz A) (cz B) (I (g + j)) hk r t0 t1 t2 t3 t4 (I 0) (I v) (I x) (I ch) (I j) = some (I ch, cz c2, cz l2, cz o2, I (n + v), u0, u1, u2, u3, cz A2, cz B2, I (g + v), hk, r, t0, t1, t2, t3, t4) := by
  intro m
  induction m with
  | zero => intro cc ll oo A B j h0 h1 h2; omega
  | succ m ih =>
    intro cc ll oo A B j h0 h1 h2 hc hl ho hA hB
    by_cases q : j = v
    · subst q
      refine ⟨cc, ll, oo, A, B, hc, hl, ho, hA, hB, ?_⟩
      show pX9_addChapter_bL88 _ _ _ _ _ _ _ _ _ _ _ _ _ _ _ _ _ _ _ _ _ _ _ _ = _
      unfold pX9_addChapter_bL88
      simp (disch := omega) only [if_true, if_false, I_add, I_sub, I_mul, I_neg, I_ofNat, Option.bind_some, kIn, I_l0, I_l1, I_l2, I_l3, I_l4, I_l5, I_l6, I_l8, I_l9, I_l10, I_l11, I_l32, I_l40, I_l43, I_l44, I_l45, I_l48, I_l49, I_l57, I_l58, I_l60, I_l61, I_l62, I_l79, I_l80, I_l100, I_l120, I_l180, I_l200, I_l240, I_l300, I_l360, I_l361, I_l362, I_l363, I_l364, I_l365, I_l485, I_l605, I_l1999, I_l2000, I_le, if_pos]
    · obtain ⟨c2, l2, o2, A2, B2, w1, w2, w3, w4, w5, w6⟩ := ih (up (opn cc 60 (n + j) (n + j)) (n + j) ch) (up (opn ll 60 (n + j) (n + j)) (n + j) x) (up (opn oo 60 (n + j) (n + j)) (n + j) 0) (up A (g + j) 1) (up B (g + j) 0) (j + 1) (by omega) (by omega) (by omega) (exf_up h0 hc) (exf_up h0 hl) (exf_up h0 ho) (exf_up2 h0 hA) (exf_up2 h0 hB)
      refine ⟨c2, l2, o2, A2, B2, w1, w2, w3, w4, w5, ?_⟩
      show pX9_addChapter_bL88 _ _ _ _ _ _ _ _ _ _ _ _ _ _ _ _ _ _ _ _ _ _ _ _ = _
      unfold pX9_addChapter_bL88 pX9_addChapter_j124 pX9_addChapter_j134
      simp (disch := omega) only [if_true, if_false, I_add, I_sub, I_mul, I_neg, I_ofNat, Option.bind_some, kIn, I_l0, I_l1, I_l2, I_l3, I_l4, I_l5, I_l6, I_l8, I_l9, I_l10, I_l11, I_l32, I_l40, I_l43, I_l44, I_l45, I_l48, I_l49, I_l57, I_l58, I_l60, I_l61, I_l62, I_l79, I_l80, I_l100, I_l120, I_l180, I_l200, I_l240, I_l300, I_l360, I_l361, I_l362, I_l363, I_l364, I_l365, I_l485, I_l605, I_l1999, I_l2000, I_le, I_eq, if_neg, if_pos]
      rw [f0_insertAt (by omega), f1_append (by omega)]
      simp only [if_true, if_false, I_add, I_sub, I_mul, I_neg, I_ofNat, Option.bind_some, kIn, I_l0, I_l1, I_l2, I_l3, I_l4, I_l5, I_l6, I_l8, I_l9, I_l10, I_l11, I_l32, I_l40, I_l43, I_l44, I_l45, I_l48, I_l49, I_l57, I_l58, I_l60, I_l61, I_l62, I_l79, I_l80, I_l100, I_l120, I_l180, I_l200, I_l240, I_l300, I_l360, I_l361, I_l362, I_l363, I_l364, I_l365, I_l485, I_l605, I_l1999, I_l2000]
      rw [show n + j + 1 = n + (j + 1) by omega, show g + j + 1 = g + (j + 1) by omega]
      exact w6
theorem f9_add1 {c l o L R : Int → Int} {n g v x ch : Int} {u0 u1 u2 : Nat → Int32} {u3 hk : Int32} {r : Nat} {t0 t1 t2 t3 t4 : vST} (hn : 0 ≤ n ∧ n + v ≤ 60) (hg : 0 ≤ g ∧ g + v ≤ 120) : ∀ (m : Nat) (cc ll oo A B : Int → Int) (j : Int), 0 ≤ j → j ≤ v → v - j < m → (∀ i, 0 ≤ i → i < n + j → cc i = exf c n ch i) → (∀ i, 0 ≤ i → i < n + j → ll i = exf l n x i) → (∀ i, 0 ≤ i → i < n + j → oo i = exf o n 0 i) → (∀ i, 0 ≤ i → i < g + j → A i = exf L g 0 i) → (∀ i, 0 ≤ i → i < g + j → B i = exf R g 1 i) → ∃ c2 l2 o2 A2 B2 : Int → Int, (∀ i, 0 ≤ i → i < n + v → c2 i = exf c n ch i) ∧ (∀ i, 0 ≤ i → i < n + v → l2 i = exf l n x i) ∧ (∀ i, 0 ≤ i → i < n + v → o2 i = exf o n 0 i) ∧ (∀ i, 0 ≤ i → i < g + v → A2 i = exf L g 0 i) ∧ (∀ i, 0 ≤ i → i < g + v → B2 i = exf R g 1 i) ∧ pX9_addChapter_L88a m u0 u1 u2 u3 (cz cc) (cz ll) (cz oo) (I (n + j)) (cz A) (cz B) (I (g + j)) hk r t0 t1 t2 t3 t4 (I 1) (I v) (I x) (I ch) (I j) = some (I ch, u0, u1, u2, u3, cz c2, cz l2, cz o2, I (n + v), cz A2, cz B2, I (g + v), hk, r, t0, t1, t2, t3, t4) := by
  intro m
  induction m with
  | zero => intro cc ll oo A B j h0 h1 h2; omega
  | succ m ih =>
    intro cc ll oo A B j h0 h1 h2 hc hl ho hA hB
    by_cases q : j = v
    · subst q
      refine ⟨cc, ll, oo, A, B, hc, hl, ho, hA, hB, ?_⟩
      show pX9_addChapter_bL88a _ _ _ _ _ _ _ _ _ _ _ _ _ _ _ _ _ _ _ _ _ _ _ _ = _
      unfold pX9_addChapter_bL88a
      simp (disch := omega) only [if_true, if_false, I_add, I_sub, I_mul, I_neg, I_ofNat, Option.bind_some, kIn, I_l0, I_l1, I_l2, I_l3, I_l4, I_l5, I_l6, I_l8, I_l9, I_l10, I_l11, I_l32, I_l40, I_l43, I_l44, I_l45, I_l48, I_l49, I_l57, I_l58, I_l60, I_l61, I_l62, I_l79, I_l80, I_l100, I_l120, I_l180, I_l200, I_l240, I_l300, I_l360, I_l361, I_l362, I_l363, I_l364, I_l365, I_l485, I_l605, I_l1999, I_l2000, I_le, if_pos]
    · obtain ⟨c2, l2, o2, A2, B2, w1, w2, w3, w4, w5, w6⟩ := ih (up (opn cc 60 (n + j) (n + j)) (n + j) ch) (up (opn ll 60 (n + j) (n + j)) (n + j) x) (up (opn oo 60 (n + j) (n + j)) (n + j) 0) (up A (g + j) 0) (up B (g + j) 1) (j + 1) (by omega) (by omega) (by omega) (exf_up h0 hc) (exf_up h0 hl) (exf_up h0 ho) (exf_up2 h0 hA) (exf_up2 h0 hB)
      refine ⟨c2, l2, o2, A2, B2, w1, w2, w3, w4, w5, ?_⟩
      show pX9_addChapter_bL88a _ _ _ _ _ _ _ _ _ _ _ _ _ _ _ _ _ _ _ _ _ _ _ _ = _
      unfold pX9_addChapter_bL88a pX9_addChapter_j124a pX9_addChapter_j134a
      simp (disch := omega) only [if_true, if_false, I_add, I_sub, I_mul, I_neg, I_ofNat, Option.bind_some, kIn, I_l0, I_l1, I_l2, I_l3, I_l4, I_l5, I_l6, I_l8, I_l9, I_l10, I_l11, I_l32, I_l40, I_l43, I_l44, I_l45, I_l48, I_l49, I_l57, I_l58, I_l60, I_l61, I_l62, I_l79, I_l80, I_l100, I_l120, I_l180, I_l200, I_l240, I_l300, I_l360, I_l361, I_l362, I_l363, I_l364, I_l365, I_l485, I_l605, I_l1999, I_l2000, I_le, I_eq, if_neg, if_pos]
      rw [f0_insertAt (by omega), f1_append (by omega)]
      simp only [if_true, if_false, I_add, I_sub, I_mul, I_neg, I_ofNat, Option.bind_some, kIn, I_l0, I_l1, I_l2, I_l3, I_l4, I_l5, I_l6, I_l8, I_l9, I_l10, I_l11, I_l32, I_l40, I_l43, I_l44, I_l45, I_l48, I_l49, I_l57, I_l58, I_l60, I_l61, I_l62, I_l79, I_l80, I_l100, I_l120, I_l180, I_l200, I_l240, I_l300, I_l360, I_l361, I_l362, I_l363, I_l364, I_l365, I_l485, I_l605, I_l1999, I_l2000]
      rw [show n + j + 1 = n + (j + 1) by omega, show g + j + 1 = g + (j + 1) by omega]
      exact w6
-- the reference's row with j verses added
def rA (X W : Int → Int) (b n g x ch j : Int) : Prop := X (360 + b) = n + j ∧ X (362 + b) = ch ∧ X 364 = g + j ∧ (∀ i, n ≤ i → i < n + j → X (60 * b + i) = x ∧ X (120 + 60 * b + i) = 0 ∧ X (240 + 60 * b + i) = ch) ∧ (∀ i, g ≤ i → i < g + j → X (365 + i) = 1 - b ∧ X (485 + i) = b) ∧ ∀ i, ¬ i = 360 + b → ¬ i = 362 + b → ¬ i = 364 → ¬ (60 * b + n ≤ i ∧ i < 60 * b + n + j) → ¬ (120 + 60 * b + n ≤ i ∧ i < 120 + 60 * b + n + j) → ¬ (240 + 60 * b + n ≤ i ∧ i < 240 + 60 * b + n + j) → ¬ (365 + g ≤ i ∧ i < 365 + g + j) → ¬ (485 + g ≤ i ∧ i < 485 + g + j) → X i = W i
def ad1 (X : Int → Int) (b n x ch j : Int) : Int → Int := up (up (up (up X (60 * b + (n + j)) x) (120 + (60 * b + (n + j))) 0) (240 + (60 * b + (n + j))) ch) (360 + b) (n + j + 1)
def ad2 (X : Int → Int) (b n g x ch j : Int) : Int → Int := up (up (up (ad1 X b n x ch j) (365 + (g + j)) (1 - b)) (485 + (g + j)) b) 364 (g + j + 1)
theorem ad1_ne {X : Int → Int} {b n x ch j i : Int} (h : ¬ i = 60 * b + (n + j) ∧ ¬ i = 120 + (60 * b + (n + j)) ∧ ¬ i = 240 + (60 * b + (n + j)) ∧ ¬ i = 360 + b) : ad1 X b n x ch j i = X i := by
  unfold ad1
  rw [up_ne h.2.2.2, up_ne h.2.2.1, up_ne h.2.1, up_ne h.1]
theorem ad2_ne {X : Int → Int} {b n g x ch j i : Int} (h : ¬ i = 365 + (g + j) ∧ ¬ i = 485 + (g + j) ∧ ¬ i = 364) : ad2 X b n g x ch j i = ad1 X b n x ch j i := by
  unfold ad2
  rw [up_ne h.2.2, up_ne h.2.1, up_ne h.1]
theorem ad1_at {X : Int → Int} {b n x ch j : Int} (h : (0 ≤ b ∧ b ≤ 1) ∧ 0 ≤ n + j ∧ n + j < 60) : ad1 X b n x ch j (60 * b + (n + j)) = x ∧ ad1 X b n x ch j (120 + (60 * b + (n + j))) = 0 ∧ ad1 X b n x ch j (240 + (60 * b + (n + j))) = ch ∧ ad1 X b n x ch j (360 + b) = n + j + 1 := by
  have hb : b = 0 ∨ b = 1 := by omega
  unfold ad1
  refine ⟨?_, ?_, ?_, ?_⟩
  · rw [up_ne (by omega), up_ne (by omega), up_ne (by omega), up_at (by omega)]
  · rw [up_ne (by omega), up_ne (by omega), up_at (by omega)]
  · rw [up_ne (by omega), up_at (by omega)]
  · rw [up_at (by omega)]
theorem ad2_at {X : Int → Int} {b n g x ch j : Int} (h : 0 ≤ g + j ∧ g + j < 120) : ad2 X b n g x ch j (365 + (g + j)) = 1 - b ∧ ad2 X b n g x ch j (485 + (g + j)) = b ∧ ad2 X b n g x ch j 364 = g + j + 1 := by
  unfold ad2
  refine ⟨?_, ?_, ?_⟩
  · rw [up_ne (by omega), up_ne (by omega), up_at (by omega)]
  · rw [up_ne (by omega), up_at (by omega)]
  · rw [up_at (by omega)]
theorem rA.add {X W : Int → Int} {b n g x ch j : Int} (hb : 0 ≤ b ∧ b ≤ 1) (hn : 0 ≤ n ∧ 0 ≤ j ∧ n + j < 60) (hg : 0 ≤ g ∧ g + j < 120) (r : rA X W b n g x ch j) : rA (ad2 X b n g x ch j) W b n g x ch (j + 1) := by
  obtain ⟨r1, r2, r3, r4, r5, r6⟩ := r
  have hb2 : b = 0 ∨ b = 1 := by omega
  have a1 := ad1_at (X := X) (x := x) (ch := ch) ⟨hb, show 0 ≤ n + j by omega, hn.2.2⟩
  have a2 := ad2_at (X := X) (b := b) (n := n) (x := x) (ch := ch) ⟨show 0 ≤ g + j by omega, hg.2⟩
  refine ⟨?_, ?_, ?_, fun i p q => ?_, fun i p q => ?_, fun i p1 p2 p3 p4 p5 p6 p7 p8 => ?_⟩
  · rw [ad2_ne (by omega), a1.2.2.2]; omega
  · rw [ad2_ne (by omega), ad1_ne (by omega)]; exact r2
  · rw [a2.2.2]; omega
  · by_cases z : i = n + j
    · rw [z, show 120 + 60 * b + (n + j) = 120 + (60 * b + (n + j)) by omega, show 240 + 60 * b + (n + j) = 240 + (60 * b + (n + j)) by omega, ad2_ne (by omega), ad2_ne (by omega), ad2_ne (by omega)]
      exact ⟨a1.1, a1.2.1, a1.2.2.1⟩
    · rw [ad2_ne (by omega), ad2_ne (by omega), ad2_ne (by omega), ad1_ne (by omega), ad1_ne (by omega), ad1_ne (by omega)]
      exact r4 i p (by omega)
  · by_cases z : i = g + j
    · rw [z]; exact ⟨a2.1, a2.2.1⟩
    · rw [ad2_ne (by omega), ad2_ne (by omega), ad1_ne (by omega), ad1_ne (by omega)]
      exact r5 i p (by omega)
  · rw [ad2_ne (by omega), ad1_ne (by omega)]
    exact r6 i p1 p2 p3 (by omega) (by omega) (by omega) (by omega) (by omega)
theorem f10_add84 {W V : Int → Int} {b n g x ch kk v : Int} (hb : 0 ≤ b ∧ b ≤ 1) (hn : 0 ≤ n ∧ n + v ≤ 60) (hg : 0 ≤ g ∧ g + v ≤ 120) : ∀ (m : Nat) (X : Int → Int) (j : Int), 0 ≤ j → j ≤ v → v - j < m → rA X W b n g x ch j → ∃ X2 : Int → Int, rA X2 W b n g x ch v ∧ pX10_addChapter_L84 m (cz X) (cz V) (I kk) (I b) (I v) (I x) (I j) = some (I ch, cz X2, cz V, I kk) := by
  intro m
  induction m with
  | zero => intro X j h0 h1 h2; omega
  | succ m ih =>
    intro X j h0 h1 h2 r
    have hb2 : b = 0 ∨ b = 1 := by omega
    by_cases q : j = v
    · refine ⟨X, by rw [← q]; exact r, ?_⟩
      show pX10_addChapter_bL84 _ _ _ _ _ _ _ _ = _
      unfold pX10_addChapter_bL84
      simp (disch := omega) only [if_true, if_false, I_add, I_sub, I_mul, I_neg, I_ofNat, Option.bind_some, kIn, I_l0, I_l1, I_l2, I_l3, I_l4, I_l5, I_l6, I_l8, I_l9, I_l10, I_l11, I_l32, I_l40, I_l43, I_l44, I_l45, I_l48, I_l49, I_l57, I_l58, I_l60, I_l61, I_l62, I_l79, I_l80, I_l100, I_l120, I_l180, I_l200, I_l240, I_l300, I_l360, I_l361, I_l362, I_l363, I_l364, I_l365, I_l485, I_l605, I_l1999, I_l2000, I_le, I_toInt, cz_at, if_pos]
      rw [r.2.1]
    · obtain ⟨X2, t1, t2⟩ := ih _ (j + 1) (by omega) (by omega) (by omega) (r.add hb (by omega) (by omega))
      refine ⟨X2, t1, ?_⟩
      show pX10_addChapter_bL84 _ _ _ _ _ _ _ _ = _
      unfold pX10_addChapter_bL84
      rw [f10_size (by omega), r.1]
      simp (disch := omega) only [if_true, if_false, I_add, I_sub, I_mul, I_neg, I_ofNat, Option.bind_some, kIn, I_l0, I_l1, I_l2, I_l3, I_l4, I_l5, I_l6, I_l8, I_l9, I_l10, I_l11, I_l32, I_l40, I_l43, I_l44, I_l45, I_l48, I_l49, I_l57, I_l58, I_l60, I_l61, I_l62, I_l79, I_l80, I_l100, I_l120, I_l180, I_l200, I_l240, I_l300, I_l360, I_l361, I_l362, I_l363, I_l364, I_l365, I_l485, I_l605, I_l1999, I_l2000, I_le, I_lt, I_eq, I_toInt, cz_at, cz_up, if_pos, if_neg]
      have e1 : up (up X (60 * b + (n + j)) x) (120 + (60 * b + (n + j))) 0 (362 + b) = ch := by rw [up_ne (by omega), up_ne (by omega)]; exact r.2.1
      rw [e1]
      have e2 : up (up (up X (60 * b + (n + j)) x) (120 + (60 * b + (n + j))) 0) (240 + (60 * b + (n + j))) ch (360 + b) = n + j := by rw [up_ne (by omega), up_ne (by omega), up_ne (by omega)]; exact r.1
      rw [e2]
      have e3 : ad1 X b n x ch j 364 = g + j := by rw [ad1_ne (by omega)]; exact r.2.2.1
      exact obind (f10_addGroup (X := ad1 X b n x ch j) (g := g + j) (x := 1 - b) (y := b) (by omega) e3) t2
