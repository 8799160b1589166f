-- the law's references (printed by wip/p24/fun/mk79.py)
theorem and31 (x : Int32) : ∃ a : Int, (0 ≤ a ∧ a ≤ 2147483647) ∧ x &&& (2147483647 : Int32) = I a := by
  have hm : (x &&& (2147483647 : Int32)).toBitVec.msb = false := by
    show (x.toBitVec &&& (2147483647 : Int32).toBitVec).msb = false
    rw [BitVec.msb_and, show ((2147483647 : Int32).toBitVec).msb = false by decide, Bool.and_false]
  have h0 : (0 : Int) ≤ (x &&& (2147483647 : Int32)).toInt := by
    show 0 ≤ (x &&& (2147483647 : Int32)).toBitVec.toInt
    rw [BitVec.toInt_eq_toNat_of_msb hm]
    omega
  have h1 := (x &&& (2147483647 : Int32)).toInt_lt
  exact ⟨_, ⟨h0, by omega⟩, (Int32.ofInt_toInt _).symm⟩
theorem T_low {n : Int} (hn : 1 ≤ n ∧ n ≤ 1000) (i : Int32) : ∃ v : Int, (0 ≤ v ∧ v < n) ∧ pL_low i (I n) = some (I v) := by
  obtain ⟨a, ha, e⟩ := and31 i
  refine ⟨a % n, ⟨Int.emod_nonneg a (by omega), Int.emod_lt_of_pos a (by omega)⟩, ?_⟩
  unfold pL_low
  rw [if_pos (by rw [I_l0, I_eq (by omega)]; omega), e, I_div (by omega), I_mul, I_sub]
  have := Int.mul_ediv_add_emod a n
  rw [show a - a / n * n = a % n by rw [Int.mul_comm]; omega]
def lT (x : Sg) (T : Int → Int) (t : Int) : Prop := tX x T t

section RF0
variable {x : Sg} {c0 l0 o0 : Int → Int} {n0 : Int} {c1 l1 o1 : Int → Int} {n1 : Int} {L R : Int → Int} {g k w0 w1 ph h : Int}
theorem ms_fl0 (kM : okM g L R n0 n1) {fi la i1 i2 : Int} (hf : 0 ≤ fi ∧ fi ≤ la ∧ la < n0) (h1 : 0 ≤ i1 ∧ i1 < g) (h2 : 0 ≤ i2 ∧ i2 < g) (a1 : Sm L i1 ≤ fi) (a2 : fi < Sm L (i1 + 1)) (b1 : Sm L i2 ≤ la) (b2 : la < Sm L (i2 + 1)) : i1 ≤ i2 ∧ (∀ i, 0 ≤ i → i < i1 → ¬ (0 < L i ∧ Sm L i ≤ la ∧ fi < Sm L i + L i)) ∧ (∀ i, i2 + 1 ≤ i → i < g → ¬ (0 < L i ∧ Sm L i ≤ la ∧ fi < Sm L i + L i)) ∧ ∀ i, i1 ≤ i → i ≤ i2 → Sm L i ≤ la ∧ fi < Sm L i + L i := by
  have hS : ∀ i, 0 ≤ i → i < g → 0 ≤ L i := fun i a z => (okM_S (b := 0) kM i a z).1
  have mono : ∀ i j, 0 ≤ i → i ≤ j → j ≤ g → Sm L i ≤ Sm L j := fun i j a z y => Sm_mono a z (fun p pa pb => hS p (by omega) (by omega))
  have s : ∀ i, 0 ≤ i → Sm L (i + 1) = Sm L i + L i := fun i a => Sm_s a
  have hii : i1 ≤ i2 := grp_mono (F := L) hS h1 h2 a1 b2 hf.2.1
  refine ⟨hii, fun i p q => ?_, fun i p q => ?_, fun i p q => ?_⟩
  · have := mono (i + 1) i1 (by omega) (by omega) (by omega)
    have := s i p
    omega
  · have := mono (i2 + 1) i (by omega) p (by omega)
    omega
  · have m1 := mono i i2 (by omega) q (by omega)
    have m2 := mono (i1 + 1) (i + 1) (by omega) (by omega) (by omega)
    have := s i (by omega)
    omega
theorem rf_322_0 (d : dX x c0 l0 o0 n0 c1 l1 o1 n1 L R g k w0 w1 ph h) {T : Int → Int} {t : Int} (ht : tX x T t) {fi la i1 i2 : Int} (hf : 0 ≤ fi ∧ fi ≤ la ∧ la < n0) (h1 : 0 ≤ i1 ∧ i1 < g) (h2 : 0 ≤ i2 ∧ i2 < g) (a1 : Sm L i1 ≤ fi) (a2 : fi < Sm L (i1 + 1)) (b1 : Sm L i2 ≤ la) (b2 : la < Sm L (i2 + 1)) {r1 r2 r3 r4 y9 y10 : Int32} (hR : pX6_read (cz T) (I t) (cz c0) (I n0) = some (I (-1), I fi, I la, r1, r2, r3, r4)) {K : Option (Int32 × Sg)} (fin : pL_refers_j548 x (I 0) (I fi) y9 y10 (I 1) = K) : ∀ (m : Nat) (i : Int), i1 ≤ i → i ≤ i2 + 1 → i2 + 1 - i < m → pL_refers_L322 m x (I 0) (I fi) (I la) y9 y10 (I i2) (I (m2 L R fi la i)) (I (m5 L R fi la i)) (I (m6 L R fi la i)) (I (m3 L R fi la i)) (I (m4 L R fi la i)) (I 3) (I i) = K := by
  have kM := d.2.2.2.2.1
  have hg := kM.1
  have hn := d.b0.1.1
  obtain ⟨hii, f1, f2, f3⟩ := ms_fl0 kM hf h1 h2 a1 a2 b1 b2
  have hS : ∀ i, 0 ≤ i → i < g → 0 ≤ L i := fun i a z => (okM_S (b := 0) kM i a z).1
  have hO : ∀ i, 0 ≤ i → i < g → 0 ≤ R i := fun i a z => (okM_S (b := 1) kM i a z).1
  have ho2 := d.b1.1.1
  have hbd : ∀ k, 0 ≤ k → k ≤ g → (0 ≤ Sm L k ∧ Sm L k ≤ 60) ∧ 0 ≤ Sm R k ∧ Sm R k ≤ 60 := fun k a z => by
    have h1 := sm_in (S := L) hS (n := n0) kM.2.2.1 (i := k) ⟨a, z⟩
    have h2 := sm_in (S := R) hO (n := n1) kM.2.2.2 (i := k) ⟨a, z⟩
    omega
  intro m
  induction m with
  | zero => intro i p1 p2 p3; omega
  | succ m ih =>
    intro i p1 p2 p3
    show pL_refers_bL322 _ _ _ _ _ _ _ _ _ _ _ _ _ _ _ = _
    unfold pL_refers_bL322
    by_cases q : i = i2 + 1
    · subst q
      have e := ms_run (S := L) (O := R) (fi := fi) (la := la) (a := i2 + 1) (b := g) (by omega) (by omega) f2
      have R0 := q_ref0 d ht hf (y := 0) (by omega) hR
      have R1 := q_ref0 d ht hf (y := 1) (by omega) hR
      have R2 := q_ref0 d ht hf (y := 2) (by omega) hR
      have R3 := q_ref0 d ht hf (y := 3) (by omega) hR
      have R4 := q_ref0 d ht hf (y := 4) (by omega) hR
      have R5 := q_ref0 d ht hf (y := 5) (by omega) hR
      have R6 := q_ref0 d ht hf (y := 6) (by omega) hR
      have R2' : sRefer x (I 0) (I 2) = some (I (m3 L R fi la (i2 + 1))) := by rw [← e.2.1]; exact R2
      have R3' : sRefer x (I 0) (I 3) = some (I (m4 L R fi la (i2 + 1))) := by rw [← e.2.2.1]; exact R3
      have R4' : sRefer x (I 0) (I 4) = some (I (m2 L R fi la (i2 + 1))) := by rw [← e.1]; exact R4
      have R5' : sRefer x (I 0) (I 5) = some (I (m5 L R fi la (i2 + 1))) := by rw [← e.2.2.2.1]; exact R5
      have R6' : sRefer x (I 0) (I 6) = some (I (if m6 L R fi la (i2 + 1) = la - fi + 1 then 1 else 0)) := by rw [← e.2.2.2.2]; exact R6
      have B := ms_bd (S := L) (O := R) (fi := fi) (la := la) hS hO (i2 + 1) (by omega) (by omega)
      have hb2 := hbd (i2 + 1) (by omega) (by omega)
      rw [if_pos (by rw [I_lt (by omega)]; omega)]
      refine obind R0 ((if_pos rfl).trans (obind R1 ((if_pos rfl).trans (obind R2' ((if_pos rfl).trans (obind R3' ((if_pos rfl).trans (obind R4' ((if_pos rfl).trans (obind R5' ((if_pos rfl).trans (obind R6' ?_))))))))))))
      rw [I_sub, I_l1, I_add]
      by_cases z : m6 L R fi la (i2 + 1) = la - fi + 1
      · rw [if_pos (by rw [z])]
        unfold pL_refers_j540
        rw [if_pos z, if_pos rfl]
        exact fin
      · rw [if_neg (by rw [I_eq (by omega)]; exact z)]
        unfold pL_refers_j540
        rw [if_neg z, if_pos (show I 0 = (0 : Int32) from rfl)]
        exact fin
    · rw [if_neg (by rw [I_lt (by omega)]; omega)]
      have hi : 0 ≤ i ∧ i < g := by omega
      have hm := hS i hi.1 hi.2
      have ho := hO i hi.1 hi.2
      have s60 := okM_S (b := 0) kM i hi.1 hi.2
      have o60 := okM_S (b := 1) kM i hi.1 hi.2
      have s60' : L i ≤ 60 := s60.2
      have o60' : R i ≤ 60 := o60.2
      have fin2 := ih (i + 1) (by omega) (by omega) (by omega)
      have hb2 := hbd i (by omega) (by omega)
      have B := ms_bd (S := L) (O := R) (fi := fi) (la := la) hS hO i (by omega) (by omega)
      have yy := @ms_Y L R fi la i hi.1
      have nn := @ms_N L R fi la i hi.1
      have f4 := f3 i p1 (by omega)
      have j444 : pL_refers_j444 (pL_refers_L322 m) x (I 0) (I fi) (I la) y9 y10 (I i2) (I (m2 L R fi la (i + 1))) (I (m5 L R fi la (i + 1))) (I (m6 L R fi la (i + 1))) (I (m3 L R fi la (i + 1))) (I (m4 L R fi la (i + 1))) (I 3) (I i) = K := by
        unfold pL_refers_j444
        rw [I_l1, I_add]
        exact fin2
      rw [if_pos (show I 0 = (0 : Int32) from rfl)]
      unfold pL_refers_j341
      refine obind (q_g2 d hi) ?_
      by_cases z : L i ≤ 0
      · obtain ⟨e1, e2, e3, e4, e5⟩ := nn (by omega)
        rw [e1, e2, e3, e4, e5] at j444
        rw [if_pos (by rw [I_l0, I_le (by omega)]; exact z)]
        exact j444
      · obtain ⟨e1, e2, e3, e4, e5⟩ := yy (by omega)
        rw [if_neg (by rw [I_l0, I_le (by omega)]; exact z), if_pos (show I 0 = (0 : Int32) from rfl), I_l1, I_add]
        unfold pL_refers_j364
        refine obind (q_g2 d hi) (obind (q_g4 d hi) ?_)
        rw [I_add, I_add]
        rw [e1, e2, e3, e4, e5] at j444
        have G1 : sGroup x (I i) (I 3) = some (I (if R i = 0 then -5 else Sm R i)) := q_g3 d hi
        have G2 : sGroup x (I i) ((I 3) + (1 : Int32)) = some (I (R i)) := q_g4 d hi
        have j403 : pL_refers_j403 (pL_refers_L322 m) x (I 0) (I fi) (I la) y9 y10 (I i2) (I (m2 L R fi la i + 1)) (I (m5 L R fi la i + R i)) (I (m6 L R fi la i + L i)) (I (m4 L R fi la i)) (I 3) (I i) (I (if R i = 0 then m3 L R fi la i else if m5 L R fi la i = 0 then Sm R i else m3 L R fi la i)) = K := by
          unfold pL_refers_j403
          refine obind G1 ?_
          by_cases z2 : R i = 0
          · rw [if_pos z2, if_pos (by decide)]
            unfold pL_refers_j442
            rw [if_pos z2] at j444 ⊢
            rw [if_pos z2] at j444
            exact j444
          · rw [if_neg z2, if_neg (by rw [I_l0, I_lt (by omega)]; omega)]
            refine obind G1 (obind G2 ?_)
            rw [if_neg z2, I_l1, I_add, I_sub]
            unfold pL_refers_j442
            rw [if_neg z2] at j444 ⊢
            rw [if_neg z2] at j444
            exact j444
        by_cases z3 : 0 ≤ m3 L R fi la i
        · rw [if_pos (by rw [I_l0, I_le (by omega)]; exact z3)]
          have e : (if R i = 0 then m3 L R fi la i else if m5 L R fi la i = 0 then Sm R i else m3 L R fi la i) = m3 L R fi la i := by
            by_cases z4 : R i = 0
            · rw [if_pos z4]
            · rw [if_neg z4, if_neg (by omega)]
          rw [e] at j403
          exact j403
        · rw [if_neg (by rw [I_l0, I_le (by omega)]; exact z3)]
          refine obind G1 ?_
          have e : (if R i = 0 then m3 L R fi la i else if m5 L R fi la i = 0 then Sm R i else m3 L R fi la i) = if R i = 0 then -5 else Sm R i := by
            by_cases z4 : R i = 0
            · rw [if_pos z4, if_pos z4]
              omega
            · rw [if_neg z4, if_neg z4, if_pos (by omega)]
          rw [e] at j403
          exact j403
theorem rf_one0 (kM : okM g L R n0 n1) {fi i1 : Int} (hf : 0 ≤ fi ∧ fi < n0) (h1 : 0 ≤ i1 ∧ i1 < g) (a1 : Sm L i1 ≤ fi) (a2 : fi < Sm L (i1 + 1)) : m2 L R fi fi g = 1 := by
  obtain ⟨-, f1, f2, f3⟩ := ms_fl0 kM (fi := fi) (la := fi) (by omega) h1 h1 a1 a2 a1 a2
  have s : Sm L (i1 + 1) = Sm L i1 + L i1 := Sm_s h1.1
  have f4 := f3 i1 (Int.le_refl _) (Int.le_refl _)
  have r1 := ms_run (S := L) (O := R) (fi := fi) (la := fi) (a := 0) (b := i1) (by omega) h1.1 f1
  have r2 := ms_run (S := L) (O := R) (fi := fi) (la := fi) (a := i1 + 1) (b := g) (by omega) (by omega) f2
  have y := @ms_Y L R fi fi i1 h1.1 (by omega)
  have z := (ms_0 (S := L) (O := R) (fi := fi) (la := fi)).1
  omega
end RF0
section RF1
variable {x : Sg} {c0 l0 o0 : Int → Int} {n0 : Int} {c1 l1 o1 : Int → Int} {n1 : Int} {L R : Int → Int} {g k w0 w1 ph h : Int}
theorem ms_fl1 (kM : okM g L R n0 n1) {fi la i1 i2 : Int} (hf : 0 ≤ fi ∧ fi ≤ la ∧ la < n1) (h1 : 0 ≤ i1 ∧ i1 < g) (h2 : 0 ≤ i2 ∧ i2 < g) (a1 : Sm R i1 ≤ fi) (a2 : fi < Sm R (i1 + 1)) (b1 : Sm R i2 ≤ la) (b2 : la < Sm R (i2 + 1)) : i1 ≤ i2 ∧ (∀ i, 0 ≤ i → i < i1 → ¬ (0 < R i ∧ Sm R i ≤ la ∧ fi < Sm R i + R i)) ∧ (∀ i, i2 + 1 ≤ i → i < g → ¬ (0 < R i ∧ Sm R i ≤ la ∧ fi < Sm R i + R i)) ∧ ∀ i, i1 ≤ i → i ≤ i2 → Sm R i ≤ la ∧ fi < Sm R i + R i := by
  have hS : ∀ i, 0 ≤ i → i < g → 0 ≤ R i := fun i a z => (okM_S (b := 1) kM i a z).1
  have mono : ∀ i j, 0 ≤ i → i ≤ j → j ≤ g → Sm R i ≤ Sm R j := fun i j a z y => Sm_mono a z (fun p pa pb => hS p (by omega) (by omega))
  have s : ∀ i, 0 ≤ i → Sm R (i + 1) = Sm R i + R i := fun i a => Sm_s a
  have hii : i1 ≤ i2 := grp_mono (F := R) hS h1 h2 a1 b2 hf.2.1
  refine ⟨hii, fun i p q => ?_, fun i p q => ?_, fun i p q => ?_⟩
  · have := mono (i + 1) i1 (by omega) (by omega) (by omega)
    have := s i p
    omega
  · have := mono (i2 + 1) i (by omega) p (by omega)
    omega
  · have m1 := mono i i2 (by omega) q (by omega)
    have m2 := mono (i1 + 1) (i + 1) (by omega) (by omega) (by omega)
    have := s i (by omega)
    omega
theorem rf_322_1 (d : dX x c0 l0 o0 n0 c1 l1 o1 n1 L R g k w0 w1 ph h) {T : Int → Int} {t : Int} (ht : tX x T t) {fi la i1 i2 : Int} (hf : 0 ≤ fi ∧ fi ≤ la ∧ la < n1) (h1 : 0 ≤ i1 ∧ i1 < g) (h2 : 0 ≤ i2 ∧ i2 < g) (a1 : Sm R i1 ≤ fi) (a2 : fi < Sm R (i1 + 1)) (b1 : Sm R i2 ≤ la) (b2 : la < Sm R (i2 + 1)) {r1 r2 r3 r4 y9 y10 : Int32} (hR : pX6_read (cz T) (I t) (cz c1) (I n1) = some (I (-1), I fi, I la, r1, r2, r3, r4)) {K : Option (Int32 × Sg)} (fin : pL_refers_j548 x (I 1) (I fi) y9 y10 (I 1) = K) : ∀ (m : Nat) (i : Int), i1 ≤ i → i ≤ i2 + 1 → i2 + 1 - i < m → pL_refers_L322 m x (I 1) (I fi) (I la) y9 y10 (I i2) (I (m2 R L fi la i)) (I (m5 R L fi la i)) (I (m6 R L fi la i)) (I (m3 R L fi la i)) (I (m4 R L fi la i)) (I 1) (I i) = K := by
  have kM := d.2.2.2.2.1
  have hg := kM.1
  have hn := d.b1.1.1
  obtain ⟨hii, f1, f2, f3⟩ := ms_fl1 kM hf h1 h2 a1 a2 b1 b2
  have hS : ∀ i, 0 ≤ i → i < g → 0 ≤ R i := fun i a z => (okM_S (b := 1) kM i a z).1
  have hO : ∀ i, 0 ≤ i → i < g → 0 ≤ L i := fun i a z => (okM_S (b := 0) kM i a z).1
  have ho2 := d.b0.1.1
  have hbd : ∀ k, 0 ≤ k → k ≤ g → (0 ≤ Sm R k ∧ Sm R k ≤ 60) ∧ 0 ≤ Sm L k ∧ Sm L k ≤ 60 := fun k a z => by
    have h1 := sm_in (S := R) hS (n := n1) kM.2.2.2 (i := k) ⟨a, z⟩
    have h2 := sm_in (S := L) hO (n := n0) kM.2.2.1 (i := k) ⟨a, z⟩
    omega
  intro m
  induction m with
  | zero => intro i p1 p2 p3; omega
  | succ m ih =>
    intro i p1 p2 p3
    show pL_refers_bL322 _ _ _ _ _ _ _ _ _ _ _ _ _ _ _ = _
    unfold pL_refers_bL322
    by_cases q : i = i2 + 1
    · subst q
      have e := ms_run (S := R) (O := L) (fi := fi) (la := la) (a := i2 + 1) (b := g) (by omega) (by omega) f2
      have R0 := q_ref1 d ht hf (y := 0) (by omega) hR
      have R1 := q_ref1 d ht hf (y := 1) (by omega) hR
      have R2 := q_ref1 d ht hf (y := 2) (by omega) hR
      have R3 := q_ref1 d ht hf (y := 3) (by omega) hR
      have R4 := q_ref1 d ht hf (y := 4) (by omega) hR
      have R5 := q_ref1 d ht hf (y := 5) (by omega) hR
      have R6 := q_ref1 d ht hf (y := 6) (by omega) hR
      have R2' : sRefer x (I 1) (I 2) = some (I (m3 R L fi la (i2 + 1))) := by rw [← e.2.1]; exact R2
      have R3' : sRefer x (I 1) (I 3) = some (I (m4 R L fi la (i2 + 1))) := by rw [← e.2.2.1]; exact R3
      have R4' : sRefer x (I 1) (I 4) = some (I (m2 R L fi la (i2 + 1))) := by rw [← e.1]; exact R4
      have R5' : sRefer x (I 1) (I 5) = some (I (m5 R L fi la (i2 + 1))) := by rw [← e.2.2.2.1]; exact R5
      have R6' : sRefer x (I 1) (I 6) = some (I (if m6 R L fi la (i2 + 1) = la - fi + 1 then 1 else 0)) := by rw [← e.2.2.2.2]; exact R6
      have B := ms_bd (S := R) (O := L) (fi := fi) (la := la) hS hO (i2 + 1) (by omega) (by omega)
      have hb2 := hbd (i2 + 1) (by omega) (by omega)
      rw [if_pos (by rw [I_lt (by omega)]; omega)]
      refine obind R0 ((if_pos rfl).trans (obind R1 ((if_pos rfl).trans (obind R2' ((if_pos rfl).trans (obind R3' ((if_pos rfl).trans (obind R4' ((if_pos rfl).trans (obind R5' ((if_pos rfl).trans (obind R6' ?_))))))))))))
      rw [I_sub, I_l1, I_add]
      by_cases z : m6 R L fi la (i2 + 1) = la - fi + 1
      · rw [if_pos (by rw [z])]
        unfold pL_refers_j540
        rw [if_pos z, if_pos rfl]
        exact fin
      · rw [if_neg (by rw [I_eq (by omega)]; exact z)]
        unfold pL_refers_j540
        rw [if_neg z, if_pos (show I 0 = (0 : Int32) from rfl)]
        exact fin
    · rw [if_neg (by rw [I_lt (by omega)]; omega)]
      have hi : 0 ≤ i ∧ i < g := by omega
      have hm := hS i hi.1 hi.2
      have ho := hO i hi.1 hi.2
      have s60 := okM_S (b := 1) kM i hi.1 hi.2
      have o60 := okM_S (b := 0) kM i hi.1 hi.2
      have s60' : R i ≤ 60 := s60.2
      have o60' : L i ≤ 60 := o60.2
      have fin2 := ih (i + 1) (by omega) (by omega) (by omega)
      have hb2 := hbd i (by omega) (by omega)
      have B := ms_bd (S := R) (O := L) (fi := fi) (la := la) hS hO i (by omega) (by omega)
      have yy := @ms_Y R L fi la i hi.1
      have nn := @ms_N R L fi la i hi.1
      have f4 := f3 i p1 (by omega)
      have j444 : pL_refers_j444 (pL_refers_L322 m) x (I 1) (I fi) (I la) y9 y10 (I i2) (I (m2 R L fi la (i + 1))) (I (m5 R L fi la (i + 1))) (I (m6 R L fi la (i + 1))) (I (m3 R L fi la (i + 1))) (I (m4 R L fi la (i + 1))) (I 1) (I i) = K := by
        unfold pL_refers_j444
        rw [I_l1, I_add]
        exact fin2
      rw [if_neg (by decide)]
      unfold pL_refers_j341
      refine obind (q_g4 d hi) ?_
      by_cases z : R i ≤ 0
      · obtain ⟨e1, e2, e3, e4, e5⟩ := nn (by omega)
        rw [e1, e2, e3, e4, e5] at j444
        rw [if_pos (by rw [I_l0, I_le (by omega)]; exact z)]
        exact j444
      · obtain ⟨e1, e2, e3, e4, e5⟩ := yy (by omega)
        rw [if_neg (by rw [I_l0, I_le (by omega)]; exact z), if_neg (by decide), I_l1, I_add]
        unfold pL_refers_j364
        refine obind (q_g4 d hi) (obind (q_g2 d hi) ?_)
        rw [I_add, I_add]
        rw [e1, e2, e3, e4, e5] at j444
        have G1 : sGroup x (I i) (I 1) = some (I (if L i = 0 then -5 else Sm L i)) := q_g1 d hi
        have G2 : sGroup x (I i) ((I 1) + (1 : Int32)) = some (I (L i)) := q_g2 d hi
        have j403 : pL_refers_j403 (pL_refers_L322 m) x (I 1) (I fi) (I la) y9 y10 (I i2) (I (m2 R L fi la i + 1)) (I (m5 R L fi la i + L i)) (I (m6 R L fi la i + R i)) (I (m4 R L fi la i)) (I 1) (I i) (I (if L i = 0 then m3 R L fi la i else if m5 R L fi la i = 0 then Sm L i else m3 R L fi la i)) = K := by
          unfold pL_refers_j403
          refine obind G1 ?_
          by_cases z2 : L i = 0
          · rw [if_pos z2, if_pos (by decide)]
            unfold pL_refers_j442
            rw [if_pos z2] at j444 ⊢
            rw [if_pos z2] at j444
            exact j444
          · rw [if_neg z2, if_neg (by rw [I_l0, I_lt (by omega)]; omega)]
            refine obind G1 (obind G2 ?_)
            rw [if_neg z2, I_l1, I_add, I_sub]
            unfold pL_refers_j442
            rw [if_neg z2] at j444 ⊢
            rw [if_neg z2] at j444
            exact j444
        by_cases z3 : 0 ≤ m3 R L fi la i
        · rw [if_pos (by rw [I_l0, I_le (by omega)]; exact z3)]
          have e : (if L i = 0 then m3 R L fi la i else if m5 R L fi la i = 0 then Sm L i else m3 R L fi la i) = m3 R L fi la i := by
            by_cases z4 : L i = 0
            · rw [if_pos z4]
            · rw [if_neg z4, if_neg (by omega)]
          rw [e] at j403
          exact j403
        · rw [if_neg (by rw [I_l0, I_le (by omega)]; exact z3)]
          refine obind G1 ?_
          have e : (if L i = 0 then m3 R L fi la i else if m5 R L fi la i = 0 then Sm L i else m3 R L fi la i) = if L i = 0 then -5 else Sm L i := by
            by_cases z4 : L i = 0
            · rw [if_pos z4, if_pos z4]
              omega
            · rw [if_neg z4, if_neg z4, if_pos (by omega)]
          rw [e] at j403
          exact j403
theorem rf_one1 (kM : okM g L R n0 n1) {fi i1 : Int} (hf : 0 ≤ fi ∧ fi < n1) (h1 : 0 ≤ i1 ∧ i1 < g) (a1 : Sm R i1 ≤ fi) (a2 : fi < Sm R (i1 + 1)) : m2 R L fi fi g = 1 := by
  obtain ⟨-, f1, f2, f3⟩ := ms_fl1 kM (fi := fi) (la := fi) (by omega) h1 h1 a1 a2 a1 a2
  have s : Sm R (i1 + 1) = Sm R i1 + R i1 := Sm_s h1.1
  have f4 := f3 i1 (Int.le_refl _) (Int.le_refl _)
  have r1 := ms_run (S := R) (O := L) (fi := fi) (la := fi) (a := 0) (b := i1) (by omega) h1.1 f1
  have r2 := ms_run (S := R) (O := L) (fi := fi) (la := fi) (a := i1 + 1) (b := g) (by omega) (by omega) f2
  have y := @ms_Y R L fi fi i1 h1.1 (by omega)
  have z := (ms_0 (S := R) (O := L) (fi := fi) (la := fi)).1
  omega
end RF1
