-- a map read: both sides alike
theorem f4_j70B {A B : Nat → Int32} {S : Int → Int} {n a d f : Int} {gm p x4 x5 l3 r3 : Int32} (hf : 0 ≤ f ∧ f ≤ 1000) : pX4_read_j70 (cz S) (I n) l3 r3 (I a) (I d) A B gm p (I f) x4 x5 = some (I f, I a, I d, A, B, gm, p, I f, x4, x5) := by
  have e := f8_failAt (f := f) (i := n) (by omega)
  rw [flt_2 hf.1] at e
  have fin : pX4_read_j84 (cz S) (I n) l3 r3 (I a) (I d) A B gm p (I f) x4 x5 = some (I f, I a, I d, A, B, gm, p, I f, x4, x5) := obind e rfl
  unfold pX4_read_j70
  by_cases z : (0 : Int32) < I a
  · exact (if_pos z).trans fin
  · by_cases z2 : I d ≤ (0 : Int32)
    · exact (if_neg z).trans (if_pos z2)
    · exact (if_neg z).trans ((if_neg z2).trans fin)
theorem f4_j70N {A B : Nat → Int32} {S : Int → Int} {n a d : Int} {gm p x4 x5 l3 r3 : Int32} (ha : (0 ≤ a ∧ a ≤ 1000) ∧ 0 ≤ d ∧ d ≤ 1000) (h : 0 < a + d) : pX4_read_j70 (cz S) (I n) l3 r3 (I a) (I d) A B gm p (I (-1)) x4 x5 = some (I n, I a, I d, A, B, gm, p, I n, x4, x5) := by
  have e := f8_failAt (f := -1) (i := n) (by omega)
  rw [flt_1] at e
  have fin : pX4_read_j84 (cz S) (I n) l3 r3 (I a) (I d) A B gm p (I (-1)) x4 x5 = some (I n, I a, I d, A, B, gm, p, I n, x4, x5) := obind e rfl
  unfold pX4_read_j70
  by_cases z : 0 < a
  · exact (if_pos (by rw [I_l0, I_lt (by omega)]; exact z)).trans fin
  · exact (if_neg (by rw [I_l0, I_lt (by omega)]; exact z)).trans ((if_neg (by rw [I_l0, I_le (by omega)]; omega)).trans fin)
theorem f4_j70Y {A B : Nat → Int32} {S : Int → Int} {n : Int} {gm p x4 x5 l3 r3 : Int32} : pX4_read_j70 (cz S) (I n) l3 r3 (I 0) (I 0) A B gm p (I (-1)) x4 x5 = some (I (-1), I 0, I 0, A, B, gm, p, I (-1), x4, x5) := (if_neg (by first | decide | (dsimp only; decide))).trans (if_pos (by first | decide | rfl))
theorem f4_L40B {A B : Nat → Int32} {S : Int → Int} {n a d f p k : Int} {gm x4 x5 l3 r3 : Int32} (m : Nat) (hn : 0 ≤ n ∧ n ≤ 80) (hp : 0 ≤ p ∧ p ≤ n) (hf : 0 ≤ f ∧ f ≤ 80) : pX4_read_L40 (cz S) (I n) l3 r3 (m + 1) (I a) (I d) A B gm (I p) (I f) x4 x5 (I k) = some (I f, I a, I d, A, B, gm, I p, I f, x4, x5) := by
  show pX4_read_bL40 (cz S) (I n) l3 r3 (pX4_read_L40 (cz S) (I n) l3 r3 m) (I a) (I d) A B gm (I p) (I f) x4 x5 (I k) = _
  have fin := f4_j70B (A := A) (B := B) (S := S) (n := n) (a := a) (d := d) (f := f) (gm := gm) (p := I p) (x4 := x4) (x5 := x5) (l3 := l3) (r3 := r3) (by omega)
  by_cases z : (80 : Int32) ≤ I k
  · exact (if_pos z).trans fin
  · have e : pX8_goesOn (I n) (I p) (I f) = some (I 0) := by rw [f8_goesOn (by omega), if_neg (by omega)]
    exact (if_neg z).trans (obind e ((if_pos (by first | decide | rfl)).trans fin))
theorem r10_L37B {D V P Q T : Nat → Int32} {k n y7 a d gm : Int32} {f : Int} (m : Nat) : pX10_readMap_L37 n T (m + 1) D V k (I f) (I 0) y7 a d gm P Q = some (((-100 : Int32) - I f), D, V, k, I f, I 0, y7, a, d, gm, P, Q) := by
  show pX10_readMap_bL37 n T (pX10_readMap_L37 n T m) D V k (I f) (I 0) y7 a d gm P Q = _
  exact (if_pos (by first | decide | rfl)).trans (if_pos (by first | decide | rfl))
def rdm (n0 n1 : Int) (n : Int32) (D V T : Nat → Int32) (k : Int32) (C : Option (Int32 × Int32 × Int32 × (Nat → Int32) × (Nat → Int32) × Int32 × Int32 × Int32 × Int32 × Int32)) (R : Option (Int32 × (Nat → Int32) × (Nat → Int32) × Int32 × Int32 × Int32 × Int32 × Int32 × Int32 × Int32 × (Nat → Int32) × (Nat → Int32))) : Prop :=
  (∃ (gm : Int) (A B P Q : Int → Int) (x2 x3 x4 x5 c5 c6 c7 c8 c9 : Int32), iR n0 n1 gm 0 0 A B ∧ (∀ i, 0 ≤ i → i < gm → P i = A i ∧ Q i = B i) ∧ C = some (I (-1), I 0, I 0, cz A, cz B, I gm, x2, x3, x4, x5) ∧ R = ((pX10_record D V k).bind fun q8 => if kIn (364 : Int32) 605 then pX10_readMap_L125 n T 4000 (upd D (364 : Int32).toNatClampNeg (0 : Int32)) q8.1 q8.2 c5 c6 c7 c8 c9 (I gm) (cz P) (cz Q) (0 : Int32) else none)) ∨
  (∃ (F : Int) (b0 b1 b5 x2 x3 x4 x5 c5 c6 c7 c8 c9 c10 : Int32) (A B P Q : Nat → Int32), (0 ≤ F ∧ F ≤ 80) ∧ C = some (I F, b0, b1, A, B, b5, x2, x3, x4, x5) ∧ R = some (((-100 : Int32) - I F), D, V, k, c5, c6, c7, c8, c9, c10, P, Q))
theorem rdm_L {S S2 : Int → Int} {n n0 n1 : Int} {D V : Nat → Int32} {kk l3 r3 : Int32} (hT : tx S S2 n) (hn01 : (0 ≤ n0 ∧ n0 ≤ 60) ∧ 0 ≤ n1 ∧ n1 ≤ 60) : ∀ (m : Nat) (k p gm a d : Int) (A B P Q : Int → Int) (x4 x5 y7 : Int32), 0 ≤ k → k ≤ p → p ≤ n → n - p + 2 < m → iR n0 n1 gm a d A B → (∀ i, 0 ≤ i → i < gm → P i = A i ∧ Q i = B i) → rdm n0 n1 (I n) D V (cz S2) kk (pX4_read_L40 (cz S) (I n) l3 r3 m (I a) (I d) (cz A) (cz B) (I gm) (I p) (I (-1)) x4 x5 (I k)) (pX10_readMap_L37 (I n) (cz S2) m D V kk (I p) (I 1) y7 (I a) (I d) (I gm) (cz P) (cz Q)) := by
  have hn := hT.1
  intro m
  induction m with
  | zero => intro k p gm a d A B P Q x4 x5 y7 h0 h1 h2 h3; omega
  | succ m ih =>
    intro k p gm a d A B P Q x4 x5 y7 h0 h1 h2 h3 hi hPQ
    have hg := hi.g
    have had := hi.2.1
    obtain ⟨m, rfl⟩ : ∃ j, m = j + 1 := ⟨m - 1, by omega⟩
    show rdm n0 n1 (I n) D V (cz S2) kk (pX4_read_bL40 (cz S) (I n) l3 r3 (pX4_read_L40 (cz S) (I n) l3 r3 (m + 1)) (I a) (I d) (cz A) (cz B) (I gm) (I p) (I (-1)) x4 x5 (I k)) (pX10_readMap_bL37 (I n) (cz S2) (pX10_readMap_L37 (I n) (cz S2) (m + 1)) D V kk (I p) (I 1) y7 (I a) (I d) (I gm) (cz P) (cz Q))
    by_cases z : p = n
    · have e : pX8_goesOn (I n) (I p) (I (-1)) = some (I 0) := by rw [f8_goesOn (by omega), if_neg (by omega)]
      have g1 : pX10_isAt (I n) (cz S2) (I p) (44 : Int32) (44 : Int32) = some (I 0) := (f10_isAt hT (x := 44) (y := 44) (by omega) (by omega) (by omega)).trans (by rw [if_neg (by omega)])
      have hC : pX4_read_bL40 (cz S) (I n) l3 r3 (pX4_read_L40 (cz S) (I n) l3 r3 (m + 1)) (I a) (I d) (cz A) (cz B) (I gm) (I p) (I (-1)) x4 x5 (I k) = pX4_read_j70 (cz S) (I n) l3 r3 (I a) (I d) (cz A) (cz B) (I gm) (I p) (I (-1)) x4 x5 := by
        by_cases z1 : (80 : Int32) ≤ I k
        · exact if_pos z1
        · exact (if_neg z1).trans (obind e (if_pos (by first | decide | rfl)))
      have g2 : ¬ I p < I n := by rw [I_lt (by omega)]; omega
      have e3 : I a + I d = I (a + d) := I_add a d
      by_cases z2 : 0 < a + d
      · have g3 : ¬ I a + I d ≤ (0 : Int32) := by rw [e3, I_l0, I_le (by omega)]; omega
        have hR : pX10_readMap_bL37 (I n) (cz S2) (pX10_readMap_L37 (I n) (cz S2) (m + 1)) D V kk (I p) (I 1) y7 (I a) (I d) (I gm) (cz P) (cz Q) = some (((-100 : Int32) - I p), D, V, kk, I p, I 1, y7, I a, I d, I gm, cz P, cz Q) := (if_neg (by first | decide | (dsimp only; decide))).trans (obind g1 ((if_pos rfl).trans ((if_neg (by first | decide | (dsimp only; decide))).trans ((if_neg g2).trans (if_neg g3)))))
        have hR2 : some (((-100 : Int32) - I p), D, V, kk, I p, I 1, y7, I a, I d, I gm, cz P, cz Q) = some (((-100 : Int32) - I n), D, V, kk, I n, I 1, y7, I a, I d, I gm, cz P, cz Q) := by rw [z]
        exact Or.inr ⟨n, _, _, _, _, _, _, _, _, _, _, _, _, _, _, _, _, _, hn, hC.trans (f4_j70N (by omega) z2), hR.trans hR2⟩
      · have a0 : a = 0 := by omega
        have d0 : d = 0 := by omega
        have g3 : I a + I d ≤ (0 : Int32) := by rw [e3, I_l0, I_le (by omega)]; omega
        subst a0 d0
        exact Or.inl ⟨gm, A, B, P, Q, _, _, _, _, _, _, _, _, _, hi, hPQ, hC.trans f4_j70Y, (if_neg (by first | decide | (dsimp only; decide))).trans (obind g1 ((if_pos (by first | decide | rfl)).trans ((if_neg (by first | decide | (dsimp only; decide))).trans ((if_neg g2).trans (if_pos g3)))))⟩
    · have z1 : ¬ (80 : Int32) ≤ I k := by rw [I_l80, I_le (by omega)]; omega
      have e : pX8_goesOn (I n) (I p) (I (-1)) = some (I 1) := by rw [f8_goesOn (by omega), if_pos (by omega)]
      have ek : I k + (1 : Int32) = I (k + 1) := by simp only [if_true, if_false, I_add, I_sub, I_mul, I_neg, I_ofNat, Option.bind_some, kIn, I_l0, I_l1, I_l2, I_l3, I_l4, I_l5, I_l6, I_l8, I_l9, I_l10, I_l11, I_l32, I_l40, I_l43, I_l44, I_l45, I_l48, I_l49, I_l57, I_l58, I_l60, I_l61, I_l62, I_l79, I_l80, I_l100, I_l120, I_l180, I_l200, I_l240, I_l300, I_l360, I_l361, I_l362, I_l363, I_l364, I_l365, I_l485, I_l605, I_l1999, I_l2000]
      have ep : I p + (1 : Int32) = I (p + 1) := by simp only [if_true, if_false, I_add, I_sub, I_mul, I_neg, I_ofNat, Option.bind_some, kIn, I_l0, I_l1, I_l2, I_l3, I_l4, I_l5, I_l6, I_l8, I_l9, I_l10, I_l11, I_l32, I_l40, I_l43, I_l44, I_l45, I_l48, I_l49, I_l57, I_l58, I_l60, I_l61, I_l62, I_l79, I_l80, I_l100, I_l120, I_l180, I_l200, I_l240, I_l300, I_l360, I_l361, I_l362, I_l363, I_l364, I_l365, I_l485, I_l605, I_l1999, I_l2000]
      by_cases y : S p = 44
      · have e2 : pX8_skip (cz S) (I n) (I p) (I (-1)) (44 : Int32) = some (I (p + 1), I (-1)) := f8_skipY (c := 44) (by omega) hT.s y
        have g1 : pX10_isAt (I n) (cz S2) (I p) (44 : Int32) (44 : Int32) = some (I 1) := (f10_isAt hT (x := 44) (y := 44) (by omega) (by omega) (by omega)).trans (by rw [if_pos (by omega)])
        rcases itm_good hT (p := p + 1) (by omega) hi hPQ ⟨hn01.1.2, hn01.2.2⟩ with ⟨p2, gm2, a2, d2, A2, B2, P2, Q2, nu, ns, y72, hp2, hi2, hPQ2, hC, hR⟩ | ⟨F, p2, a2, d2, A2, B2, gm2, nu, ns, y72, c8, c9, c10, P2, Q2, hF, hp2, ha2, hd2, hC, hR⟩
        · rw [← ep] at hR
          have r1 := ih (k + 1) p2 gm2 a2 d2 A2 B2 P2 Q2 nu ns y72 (by omega) (by omega) (by omega) (by omega) hi2 hPQ2
          rw [← ek] at r1
          have hC2 : pX4_read_bL40 (cz S) (I n) l3 r3 (pX4_read_L40 (cz S) (I n) l3 r3 (m + 1)) (I a) (I d) (cz A) (cz B) (I gm) (I p) (I (-1)) x4 x5 (I k) = pX4_read_L40 (cz S) (I n) l3 r3 (m + 1) (I a2) (I d2) (cz A2) (cz B2) (I gm2) (I p2) (I (-1)) nu ns (I k + (1 : Int32)) := (if_neg z1).trans (obind e ((if_neg (by first | decide | (dsimp only; decide))).trans (obind e2 (obind hC rfl))))
          have hR2 : pX10_readMap_bL37 (I n) (cz S2) (pX10_readMap_L37 (I n) (cz S2) (m + 1)) D V kk (I p) (I 1) y7 (I a) (I d) (I gm) (cz P) (cz Q) = pX10_readMap_L37 (I n) (cz S2) (m + 1) D V kk (I p2) (I 1) y72 (I a2) (I d2) (I gm2) (cz P2) (cz Q2) := (if_neg (by first | decide | (dsimp only; decide))).trans (obind g1 ((if_neg (by first | decide | (dsimp only; decide))).trans (obind hR rfl)))
          rw [hC2, hR2]
          exact r1
        · rw [← ep] at hR
          have r1 := f4_L40B (A := A2) (B := B2) (S := S) (n := n) (a := a2) (d := d2) (f := F) (p := p2) (k := k + 1) (gm := gm2) (x4 := nu) (x5 := ns) (l3 := l3) (r3 := r3) m hn hp2 hF
          rw [← ek] at r1
          exact Or.inr ⟨F, _, _, _, _, _, _, _, _, _, _, _, _, _, _, _, _, _, hF, (if_neg z1).trans (obind e ((if_neg (by first | decide | (dsimp only; decide))).trans (obind e2 (obind hC r1)))), (if_neg (by first | decide | (dsimp only; decide))).trans (obind g1 ((if_neg (by first | decide | (dsimp only; decide))).trans (obind hR (r10_L37B m))))⟩
      · have e2 : pX8_skip (cz S) (I n) (I p) (I (-1)) (44 : Int32) = some (I p, I p) := f8_skipN (c := 44) (by omega) hT.s (fun t => y t.2)
        have g1 : pX10_isAt (I n) (cz S2) (I p) (44 : Int32) (44 : Int32) = some (I 0) := (f10_isAt hT (x := 44) (y := 44) (by omega) (by omega) (by omega)).trans (by rw [if_neg (by omega)])
        obtain ⟨p2, nu, ns, hp2, hC⟩ := f4_itemB (a := I a) (d := I d) (gm := I gm) (A := cz A) (B := cz B) (p := p) (f := p) hT (by omega) (by omega)
        have r1 := f4_L40B (A := cz A) (B := cz B) (S := S) (n := n) (a := a) (d := d) (f := p) (p := p2) (k := k + 1) (gm := I gm) (x4 := nu) (x5 := ns) (l3 := l3) (r3 := r3) m hn hp2 (by omega)
        rw [← ek] at r1
        have g2 : I p < I n := by rw [I_lt (by omega)]; omega
        exact Or.inr ⟨p, _, _, _, _, _, _, _, _, _, _, _, _, _, _, _, _, _, by omega, (if_neg z1).trans (obind e ((if_neg (by first | decide | (dsimp only; decide))).trans (obind e2 (obind hC r1)))), (if_neg (by first | decide | (dsimp only; decide))).trans (obind g1 ((if_pos (by first | decide | rfl)).trans ((if_neg (by first | decide | (dsimp only; decide))).trans (if_pos g2))))⟩
theorem rdm_A {S S2 A B W P Q : Int → Int} {n n0 n1 : Int} {V : Nat → Int32} {kk : Int32} (hT : tx S S2 n) (hn01 : (0 ≤ n0 ∧ n0 ≤ 60) ∧ 0 ≤ n1 ∧ n1 ≤ 60) (w0 : W 360 = n0) (w1 : W 361 = n1) : rdm n0 n1 (I n) (cz W) V (cz S2) kk (pX4_read (cz A) (cz B) (cz S) (I n) (I n0) (I n1)) (pX10_readMap (cz W) V kk (I n) (cz S2) (cz P) (cz Q)) := by
  have hn := hT.1
  have g1 : pX10_size (cz W) (0 : Int32) = some (I n0) := (f10_size (b := 0) (by omega)).trans (by rw [show (360 : Int) + 0 = 360 from rfl, w0])
  have g2 : pX10_size (cz W) (1 : Int32) = some (I n1) := (f10_size (b := 1) (by omega)).trans (by rw [show (360 : Int) + 1 = 361 from rfl, w1])
  have e0 : pX8_restart = some (I 0, I (-1), I 0, I 0) := rfl
  have e1 : pX1_clear = some (I 0) := rfl
  have hi : iR n0 n1 0 n0 n1 A B := ⟨by omega, by omega, fun i p q => by omega, by rw [Sm_0]; omega, by rw [Sm_0]; omega⟩
  rcases itm_good (P := P) (Q := Q) hT (p := 0) (by omega) hi (fun i p q => by omega) ⟨hn01.1.2, hn01.2.2⟩ with ⟨p2, gm2, a2, d2, A2, B2, P2, Q2, nu, ns, y72, hp2, hi2, hPQ2, hC, hR⟩ | ⟨F, p2, a2, d2, A2, B2, gm2, nu, ns, y72, c8, c9, c10, P2, Q2, hF, hp2, ha2, hd2, hC, hR⟩
  · have hC2 : pX4_read (cz A) (cz B) (cz S) (I n) (I n0) (I n1) = pX4_read_L40 (cz S) (I n) (I n0) (I n1) 4000 (I a2) (I d2) (cz A2) (cz B2) (I gm2) (I p2) (I (-1)) nu ns (I 0) := obind e0 (obind e1 (obind hC rfl))
    have hR2 : pX10_readMap (cz W) V kk (I n) (cz S2) (cz P) (cz Q) = pX10_readMap_L37 (I n) (cz S2) 4000 (cz W) V kk (I p2) (I 1) y72 (I a2) (I d2) (I gm2) (cz P2) (cz Q2) := obind g1 (obind g2 (obind hR rfl))
    rw [hC2, hR2]
    exact rdm_L hT hn01 4000 0 p2 gm2 a2 d2 A2 B2 P2 Q2 nu ns y72 (by omega) (by omega) (by omega) (by omega) hi2 hPQ2
  · have r1 := f4_L40B (A := A2) (B := B2) (S := S) (n := n) (a := a2) (d := d2) (f := F) (p := p2) (k := 0) (gm := gm2) (x4 := nu) (x5 := ns) (l3 := I n0) (r3 := I n1) 3999 hn hp2 hF
    exact Or.inr ⟨F, _, _, _, _, _, _, _, _, _, _, _, _, _, _, _, _, _, hF, obind e0 (obind e1 (obind hC r1)), obind g1 (obind g2 (obind hR (r10_L37B 3999)))⟩
theorem f10_rm125 {W A B P Q : Int → Int} {gm : Int} {n : Int32} {T V : Nat → Int32} {kk c5 c6 c7 c8 c9 : Int32} (hg : 0 ≤ gm ∧ gm ≤ 120) (hPQ : ∀ i, 0 ≤ i → i < gm → P i = A i ∧ Q i = B i) : ∀ (m : Nat) (X : Int → Int) (k : Int), 0 ≤ k → k ≤ gm → gm - k < m → rP X W k A B → ∃ X2 : Int → Int, rP X2 W gm A B ∧ pX10_readMap_L125 n T m (cz X) V kk c5 c6 c7 c8 c9 (I gm) (cz P) (cz Q) (I k) = some (I gm, cz X2, V, kk, c5, c6, c7, c8, c9, I gm, cz P, cz Q) := by
  intro m
  induction m with
  | zero => intro X k a b c; omega
  | succ m ih =>
    intro X k a b c r
    by_cases q : k = gm
    · subst q
      have z : I k ≤ I k := by rw [I_le (by omega)]; omega
      have e : pX10_groups (cz X) = some (I k) := by rw [f10_groups, r.1]
      exact ⟨X, r, (if_pos z).trans (obind e rfl)⟩
    · have z : ¬ I gm ≤ I k := by rw [I_le (by omega)]; omega
      obtain ⟨X2, t1, t2⟩ := ih _ (k + 1) (by omega) (by omega) (by omega) (r.add (by omega))
      refine ⟨X2, t1, ?_⟩
      have hk := hPQ k a (by omega)
      have e1 := f10_addGroup (X := X) (g := k) (x := A k) (y := B k) (by omega) r.1
      rw [← hk.1, ← hk.2] at e1 t2
      have k1 : kIn (I k) 120 := by simp (disch := omega) only [if_true, if_false, I_add, I_sub, I_mul, I_neg, I_ofNat, Option.bind_some, kIn, I_l0, I_l1, I_l2, I_l3, I_l4, I_l5, I_l6, I_l8, I_l9, I_l10, I_l11, I_l32, I_l40, I_l43, I_l44, I_l45, I_l48, I_l49, I_l57, I_l58, I_l60, I_l61, I_l62, I_l79, I_l80, I_l100, I_l120, I_l180, I_l200, I_l240, I_l300, I_l360, I_l361, I_l362, I_l363, I_l364, I_l365, I_l485, I_l605, I_l1999, I_l2000, I_toInt]; omega
      have e2 : pX10_addGroup (cz X) ((cz P) (I k).toNatClampNeg) ((cz Q) (I k).toNatClampNeg) = some (cz (up (up (up X (365 + k) (P k)) (485 + k) (Q k)) 364 (k + 1))) := by rw [cz_at (by omega), cz_at (by omega)]; exact e1
      have ek : I k + (1 : Int32) = I (k + 1) := by simp only [if_true, if_false, I_add, I_sub, I_mul, I_neg, I_ofNat, Option.bind_some, kIn, I_l0, I_l1, I_l2, I_l3, I_l4, I_l5, I_l6, I_l8, I_l9, I_l10, I_l11, I_l32, I_l40, I_l43, I_l44, I_l45, I_l48, I_l49, I_l57, I_l58, I_l60, I_l61, I_l62, I_l79, I_l80, I_l100, I_l120, I_l180, I_l200, I_l240, I_l300, I_l360, I_l361, I_l362, I_l363, I_l364, I_l365, I_l485, I_l605, I_l1999, I_l2000]
      rw [← ek] at t2
      exact (if_neg z).trans ((if_pos k1).trans ((if_pos k1).trans (obind e2 t2)))
section RDM
variable {k : Int} {s0 s1 s2 s3 s4 : vST} {V W : Int → Int} {vL0 vL1 vL2 : Nat → Int32} {vL3 : Int32} {vR0 vR1 vR2 : Nat → Int32} {vR3 : Int32} {vM0 vM1 : Nat → Int32} {vM2 : Int32} {t0 : Nat → Int32} {t1 d3 : Int32} {d4 : Nat → Int32}
theorem e_readMap (hH : rH k s0 s1 s2 s3 s4 V) (hS : rS ((vL0, vL1, vL2, vL3), (vR0, vR1, vR2, vR3), (vM0, vM1, vM2)) W) (hT : rT t0 t1 d3 d4) (N0 N1 d11 d12 : Nat → Int32) : ∃ (a : Int32) (m0 m1 : Nat → Int32) (m2 : Int32) (k2 : Int) (r : Nat) (u0 u1 u2 u3 u4 : vST) (z2 z3 z4 z5 j0 j1 : Int32) (o0 o1 : Nat → Int32) (o2 : Int32) (V2 W2 : Int → Int) (e5 e6 e7 e8 e9 e10 : Int32) (e11 e12 : Nat → Int32), pX9_readMap vL0 vL1 vL2 vL3 vR0 vR1 vR2 vR3 vM0 vM1 vM2 (I k) s0 s1 s2 s3 s4 t0 t1 N0 N1 = some (a, m0, m1, m2, I k2, r, u0, u1, u2, u3, u4, z2, z3, z4, z5, j0, j1, o0, o1, o2) ∧ pX10_readMap (cz W) (cz V) (I k) d3 d4 d11 d12 = some (a, cz W2, cz V2, I k2, e5, e6, e7, e8, e9, e10, e11, e12) ∧ rS ((vL0, vL1, vL2, vL3), (vR0, vR1, vR2, vR3), (m0, m1, m2)) W2 ∧ rHr r k2 u0 u1 u2 u3 u4 V2 := by
  obtain ⟨c0, l0, o0, n0, c1, l1, o1, n1, L, R, g, e, k0, k1, kM, r0, r1, rm⟩ := id hS
  obtain ⟨S, S2, n, rfl, rfl, rfl, rfl, hn, hs⟩ := id hT
  have tX : tx S S2 n := ⟨hn, hs⟩
  obtain ⟨A0, rfl, _⟩ := cz_of N0
  obtain ⟨B0, rfl, _⟩ := cz_of N1
  obtain ⟨P0, rfl, _⟩ := cz_of d11
  obtain ⟨Q0, rfl, _⟩ := cz_of d12
  simp only [Prod.mk.injEq] at e
  obtain ⟨⟨rfl, rfl, rfl, rfl⟩, ⟨rfl, rfl, rfl, rfl⟩, rfl, rfl, rfl⟩ := e
  have b0 := k0.1
  have b1 := k1.1
  rcases rdm_A (A := A0) (B := B0) (P := P0) (Q := Q0) (V := cz V) (kk := I k) tX ⟨b0, b1⟩ r0.1 r1.1 with ⟨gm, A, B, P, Q, x2, x3, x4, x5, c5, c6, c7, c8, c9, hi, hPQ, hC, hR⟩ | ⟨F, q0, q1, q5, x2, x3, x4, x5, c5, c6, c7, c8, c9, c10, A, B, P, Q, hF, hC, hR⟩
  · obtain ⟨k2, r, u0, u1, u2, u3, u4, V2, hh, e1, e2⟩ := e_record hH hS
    have hk : kIn (364 : Int32) 605 := by decide
    have hu : upd (cz W) (364 : Int32).toNatClampNeg (0 : Int32) = cz (up W 364 0) := cz_up (a := 364) (v := 0) (by omega)
    obtain ⟨W2, x1, y1⟩ := f10_rm125 (W := W) (A := A) (B := B) (P := P) (Q := Q) (n := I n) (T := cz S2) (V := cz V2) (kk := I k2) (c5 := c5) (c6 := c6) (c7 := c7) (c8 := c8) (c9 := c9) hi.1 hPQ 4000 (up W 364 0) 0 (by omega) hi.1.1 (by have := hi.1; omega) ⟨up_at rfl, fun j p q => by omega, fun i p => up_ne (by omega)⟩
    rw [← hu] at y1
    have hM : okM gm A B n0 n1 := okM_mk hi.1.1 hi.2.2.1 (by have := hi.2.2.2.1; omega) (by have := hi.2.2.2.2; omega) ⟨b0.2, b1.2⟩
    exact ⟨I gm, cz A, cz B, I gm, k2, r, u0, u1, u2, u3, u4, _, _, _, _, _, _, _, _, _, V2, W2, _, _, _, _, _, _, _, _, obind hC ((if_pos (by first | decide | rfl)).trans (obind e1 (obind f1_copyFrom rfl))), hR.trans (obind e2 ((if_pos hk).trans y1)), ⟨c0, l0, o0, n0, c1, l1, o1, n1, A, B, gm, rfl, k0, k1, hM, r0.lo (by omega) b0.2 x1.2.2, r1.lo (by omega) b1.2 x1.2.2, x1.m⟩, hh⟩
  · have hne : ¬ I F = (-1 : Int32) := by
      intro t
      rw [show (-1 : Int32) = I (-1) from rfl, I_eq (by omega)] at t
      omega
    exact ⟨(-100 : Int32) - I F, _, _, _, k, 0, s0, s1, s2, s3, s4, _, _, _, _, _, _, _, _, _, V, W, _, _, _, _, _, _, _, _, obind hC (if_neg hne), hR, hS, Or.inl ⟨rfl, hH⟩⟩
end RDM
