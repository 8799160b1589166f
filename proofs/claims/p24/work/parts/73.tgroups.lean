-- the law's look at the groups
theorem num1 {N v j : Int} {c l o : Int → Int} (h : okB N c l o) (hv : 0 ≤ v ∧ v < N) (hj : isF c (c v) N j) : (v - j + 1 = 1) ↔ (v = 0 ∨ ¬ c v = c (v - 1)) := by
  have h1 := hj.1
  have hjv : j ≤ v := by
    by_cases q : j ≤ v
    · exact q
    · exact absurd rfl (hj.2.2 v hv.1 (by omega))
  constructor
  · intro e
    by_cases z : v = 0
    · exact Or.inl z
    · exact Or.inr (fun q => hj.2.2 (v - 1) (by omega) (by omega) q.symm)
  · intro e
    rcases e with e | e
    · omega
    · by_cases z : j = v
      · omega
      · have h2 := okB_mono h (i := j) (k := v - 1) h1.1 (by omega) (by omega)
        have h3 := okB_mono h (i := v - 1) (k := v) (by omega) (by omega) hv.2
        rw [hj.2.1] at h2
        exact absurd (by omega : c v = c (v - 1)) e
theorem tn_6 {x : Sg} {b : Int} {c l o : Int → Int} {n w h : Int} (d : dB x b c l o n w) (hh : 0 ≤ h ∧ h ≤ 5) {a e : Int} (ha : 0 ≤ a ∧ a ≤ e ∧ e ≤ n) : ∀ (m : Nat) (s k : Int), a ≤ k → k ≤ e → e - k < m → s = Sm (vln c l w h) k - Sm (vln c l w h) a → pL_need_L6 x m (I b) (I a) (I (e - a)) (I h) (I s) (I k) = some (I (Sm (vln c l w h) e - Sm (vln c l w h) a)) := by
  have hn := d.1.1
  have hw := d.2.1
  intro m
  induction m with
  | zero => intro s k a1 a2 a3; omega
  | succ m ih =>
    intro s k a1 a2 a3 hs
    show pL_need_bL6 _ _ _ _ _ _ _ _ = _
    unfold pL_need_bL6
    rw [I_add, show a + (e - a) = e by omega]
    by_cases q : k = e
    · rw [if_pos (by rw [I_le (by omega)]; omega), hs, q]
    · rw [if_neg (by rw [I_le (by omega)]; omega)]
      have qv : 0 ≤ k ∧ k < n := by omega
      obtain ⟨j, hj⟩ := ex_F (P := c) (p := c k) (g := n) ⟨k, qv.1, qv.2, rfl⟩
      have hj1 := hj.1
      have hnum := num1 d.1 qv hj
      refine obind (q_v4 d qv hj) (obind (q_v1 d qv hj) ?_)
      have e1 := Sm_s (F := vln c l w h) (k := k) (by omega)
      have e2 : vln c l w h k = (l k + w - 1) / w + (if k = 0 ∨ ¬ c k = c (k - 1) then h else 0) := rfl
      by_cases z : k = 0 ∨ ¬ c k = c (k - 1)
      · rw [if_pos z] at e2
        rw [if_pos (by rw [hnum.mpr z]; rfl)]
        unfold pL_need_j42
        rw [I_l1, I_add, I_add, I_add]
        exact ih _ _ (by omega) (by omega) (by omega) (by omega)
      · rw [if_neg z] at e2
        rw [if_neg (by rw [I_l1, I_eq (by omega)]; exact fun q => z (hnum.mp q))]
        unfold pL_need_j42
        rw [I_l1, I_l0, I_add, I_add, I_add]
        exact ih _ _ (by omega) (by omega) (by omega) (by omega)
theorem T_need {x : Sg} {b : Int} {c l o : Int → Int} {n w h : Int} (d : dB x b c l o n w) (hh : 0 ≤ h ∧ h ≤ 5) {a m : Int} (ha : 0 ≤ a ∧ 0 ≤ m ∧ a + m ≤ n) : pL_need x (I b) (I a) (I m) (I h) = some (I (Sm (vln c l w h) (a + m) - Sm (vln c l w h) a)) := by
  have hn := d.1.1
  have := tn_6 d hh (a := a) (e := a + m) (by omega) 4000 0 a (by omega) (by omega) (by omega) (by omega)
  rw [show a + m - a = m by omega] at this
  exact this
section TG
variable {x : Sg} {c0 l0 o0 : Int → Int} {n0 : Int} {c1 l1 o1 : Int → Int} {n1 : Int} {L R : Int → Int} {g k w0 w1 ph h : Int}
theorem tg_b0 (d : dX x c0 l0 o0 n0 c1 l1 o1 n1 L R g k w0 w1 ph h) {v i : Int} (hv : 0 ≤ v ∧ v < n0) (hi : 0 ≤ i ∧ i < g) (h1 : Sm L i ≤ v) (h2 : v < Sm L (i + 1)) : sBeside x (I 0) (I v) (I 0) = some (I i) ∧ sBeside x (I 0) (I v) (I 1) = some (I (if R i = 0 then -5 else Sm R i)) ∧ sBeside x (I 0) (I v) (I 2) = some (I (if R i = 0 then -5 else Sm R i + R i - 1)) ∧ sBeside x (I 0) (I v) (I 3) = some (I (-2)) :=
  ⟨q_b0 d (b := 0) (Or.inl ⟨rfl, hv⟩) hi h1 h2, q_b1 d (b := 0) (Or.inl ⟨rfl, hv⟩) hi h1 h2, q_b2 d (b := 0) (Or.inl ⟨rfl, hv⟩) hi h1 h2, q_b3 d (b := 0) (Or.inl ⟨rfl, hv⟩) hi h1 h2⟩
theorem tg_b1 (d : dX x c0 l0 o0 n0 c1 l1 o1 n1 L R g k w0 w1 ph h) {v i : Int} (hv : 0 ≤ v ∧ v < n1) (hi : 0 ≤ i ∧ i < g) (h1 : Sm R i ≤ v) (h2 : v < Sm R (i + 1)) : sBeside x (I 1) (I v) (I 0) = some (I i) ∧ sBeside x (I 1) (I v) (I 1) = some (I (if L i = 0 then -5 else Sm L i)) ∧ sBeside x (I 1) (I v) (I 2) = some (I (if L i = 0 then -5 else Sm L i + L i - 1)) :=
  ⟨q_b0 d (b := 1) (Or.inr ⟨rfl, hv⟩) hi h1 h2, q_b1 d (b := 1) (Or.inr ⟨rfl, hv⟩) hi h1 h2, q_b2 d (b := 1) (Or.inr ⟨rfl, hv⟩) hi h1 h2⟩
-- what is known of group i
def gI (L R : Int → Int) (n0 n1 g i n m le ri : Int) : Prop := (0 ≤ i ∧ i < g) ∧ n = L i ∧ m = R i ∧ le = Sm L i ∧ ri = Sm R i ∧ Sm L (i + 1) = le + n ∧ Sm R (i + 1) = ri + m ∧ (0 ≤ n ∧ n ≤ 60) ∧ (0 ≤ m ∧ m ≤ 60) ∧ 1 ≤ n + m ∧ (0 ≤ le ∧ le + n ≤ n0 ∧ n0 ≤ 60) ∧ (0 ≤ ri ∧ ri + m ≤ n1 ∧ n1 ≤ 60) ∧ g ≤ 120
theorem gI_of (d : dX x c0 l0 o0 n0 c1 l1 o1 n1 L R g k w0 w1 ph h) {i : Int} (hi : 0 ≤ i ∧ i < g) : gI L R n0 n1 g i (L i) (R i) (Sm L i) (Sm R i) := by
  obtain ⟨-, -, k0, k1, kM, -⟩ := d
  have e1 : Sm L (i + 1) = Sm L i + L i := Sm_s hi.1
  have e2 : Sm R (i + 1) = Sm R i + R i := Sm_s hi.1
  have hm := kM.2.1 i hi.1 hi.2
  have hL : ∀ j, 0 ≤ j → j < g → 0 ≤ L j := fun j a b => (kM.2.1 j a b).1.1
  have hR : ∀ j, 0 ≤ j → j < g → 0 ≤ R j := fun j a b => (kM.2.1 j a b).2.1.1
  have s1 := sm_in hL kM.2.2.1 (i := i) (by omega)
  have s2 := sm_in hL kM.2.2.1 (i := i + 1) (by omega)
  have s3 := sm_in hR kM.2.2.2 (i := i) (by omega)
  have s4 := sm_in hR kM.2.2.2 (i := i + 1) (by omega)
  have := k0.1
  have := k1.1
  have := kM.1
  exact ⟨hi, rfl, rfl, rfl, rfl, e1, e2, hm.1, hm.2.1, hm.2.2, by omega, by omega, by omega⟩
variable {i n m le ri : Int}
theorem tg_339 (d : dX x c0 l0 o0 n0 c1 l1 o1 n1 L R g k w0 w1 ph h) (G : gI L R n0 n1 g i n m le ri) {K : (Nat → Int32) → Int32 → Int32 → Int32 → Int32 → Int32 → Option Int32} {f : Nat → Int32} {em dd A B : Int} (hA : A = ned (vln c0 l0 w0 h) L i) (hB : B = ned (vln c1 l1 w1 h) R i) : pL_groups_j339 x K f (I h) (I le) (I ri) (I i) (I n) (I m) (I (knd n m)) (I A) (I B) (I (nts o0 o1 L R i)) (I em) (I dd) = K f (I h) (I (le + n)) (I (ri + m)) (I (em + dd)) (I (i + 1)) := by
  obtain ⟨hi, rfl, rfl, rfl, rfl, e1, e2, hn, hm, hnm, hl, hr, hg⟩ := G
  have k0 := d.b0.1
  have k1 := d.b1.1
  have hw0 := d.b0.2.1
  have hw1 := d.b1.2.1
  obtain ⟨-, -, -, -, kM, -, -, -, -, hh⟩ := id d
  have bA := ned_v (w := w0) (h := h) k0 (fun j a b => (kM.2.1 j a b).1.1) kM.2.2.1 (by omega) hh i hi.1 hi.2
  have bB := ned_v (w := w1) (h := h) k1 (fun j a b => (kM.2.1 j a b).2.1.1) kM.2.2.2 (by omega) hh i hi.1 hi.2
  rw [← hA] at bA
  rw [← hB] at bB
  have hT : hgt c0 l0 c1 l1 L R w0 w1 h i = mx A B := by unfold hgt; rw [← hA, ← hB]
  have j425 : ∀ q, q = hgt c0 l0 c1 l1 L R w0 w1 h i → pL_groups_j425 x K f (I h) (I (Sm L i)) (I (Sm R i)) (I (em + dd)) (I i) (I (L i)) (I (R i)) (I (nts o0 o1 L R i)) (I (hgt c0 l0 c1 l1 L R w0 w1 h i)) (I q) = K f (I h) (I (Sm L i + L i)) (I (Sm R i + R i)) (I (em + dd)) (I (i + 1)) := by
    intro q hq
    unfold pL_groups_j425
    rw [if_pos (by rw [hq])]
    refine obind (q_g8 d hi) ((if_pos rfl).trans (obind (q_g9 d hi) ((if_pos rfl).trans ?_)))
    rw [I_l1, I_add, I_add, I_add]
  have j401 : ∀ q, q = (if R i = 0 then -5 else Sm R i) → pL_groups_j401 x K f (I h) (I (Sm L i)) (I (Sm R i)) (I (em + dd)) (I i) (I (L i)) (I (R i)) (I A) (I B) (I (nts o0 o1 L R i)) (I (if R i = 0 then -5 else Sm R i)) (I q) = K f (I h) (I (Sm L i + L i)) (I (Sm R i + R i)) (I (em + dd)) (I (i + 1)) := by
    intro q hq
    unfold pL_groups_j401
    rw [if_pos (by rw [hq])]
    refine obind (q_g5 d hi) ?_
    by_cases z : A ≤ B
    · rw [if_pos (by rw [I_le (by omega)]; exact z)]
      exact j425 B (by rw [hT]; unfold mx; split <;> omega)
    · rw [if_neg (by rw [I_le (by omega)]; exact z)]
      exact j425 A (by rw [hT]; unfold mx; split <;> omega)
  have j380 : ∀ q, q = (if L i = 0 then -5 else Sm L i) → pL_groups_j380 x K f (I h) (I (Sm L i)) (I (Sm R i)) (I (em + dd)) (I i) (I (L i)) (I (R i)) (I A) (I B) (I (nts o0 o1 L R i)) (I (if L i = 0 then -5 else Sm L i)) (I q) = K f (I h) (I (Sm L i + L i)) (I (Sm R i + R i)) (I (em + dd)) (I (i + 1)) := by
    intro q hq
    unfold pL_groups_j380
    rw [if_pos (by rw [hq])]
    refine obind (q_g3 d hi) ?_
    by_cases z : R i = 0
    · rw [if_pos (by rw [z]; rfl)]
      exact j401 (-5) (by rw [if_pos z])
    · rw [if_neg (by rw [I_l0, I_eq (by omega)]; exact z)]
      exact j401 (Sm R i) (by rw [if_neg z])
  unfold pL_groups_j339
  rw [I_add, if_neg (by rw [I_l0, I_eq (by omega)]; omega)]
  refine obind (q_g0 d hi) ((if_pos rfl).trans (obind (q_g1 d hi) ?_))
  rw [I_add]
  by_cases z : L i = 0
  · rw [if_pos (by rw [z]; rfl)]
    exact j380 (-5) (by rw [if_pos z])
  · rw [if_neg (by rw [I_l0, I_eq (by omega)]; exact z)]
    exact j380 (Sm L i) (by rw [if_neg z])
theorem tg_216 (d : dX x c0 l0 o0 n0 c1 l1 o1 n1 L R g k w0 w1 ph h) (G : gI L R n0 n1 g i n m le ri) {K : (Nat → Int32) → Int32 → Int32 → Int32 → Int32 → Int32 → Option Int32} {F : Int → Int} {em A B : Int} (hA : A = ned (vln c0 l0 w0 h) L i) (hB : B = ned (vln c1 l1 w1 h) R i) : ∀ (mm : Nat) (s v : Int), ri ≤ v → v ≤ ri + m → ri + m - v < mm → s = ned o0 L i + (Sm o1 v - Sm o1 ri) → pL_groups_L216 x K mm (cz F) (I h) (I le) (I ri) (I em) (I i) (I n) (I m) (I (knd n m)) (I A) (I B) (I s) (I v) = K (cz (up F (knd n m) (F (knd n m) + 1))) (I h) (I (le + n)) (I (ri + m)) (I (em + ab (A - B))) (I (i + 1)) := by
  have G' := G
  obtain ⟨hi, e1, e2, e3, e4, e5, e6, hn, hm, hnm, hl, hr, hg⟩ := G'
  have k0 := d.b0.1
  have k1 := d.b1.1
  have hw0 := d.b0.2.1
  have hw1 := d.b1.2.1
  obtain ⟨-, -, -, -, kM, -, -, -, -, hh⟩ := id d
  have bA := ned_v (w := w0) (h := h) k0 (fun j a b => (kM.2.1 j a b).1.1) kM.2.2.1 (by omega) hh i hi.1 hi.2
  have bB := ned_v (w := w1) (h := h) k1 (fun j a b => (kM.2.1 j a b).2.1.1) kM.2.2.2 (by omega) hh i hi.1 hi.2
  rw [← hA] at bA
  rw [← hB] at bB
  have hk := knd_bd n m
  intro mm
  induction mm with
  | zero => intro s v a1 a2 a3; omega
  | succ mm ih =>
    intro s v a1 a2 a3 hs
    show pL_groups_bL216 _ _ _ _ _ _ _ _ _ _ _ _ _ _ _ _ = _
    unfold pL_groups_bL216
    rw [I_add]
    by_cases q : v = ri + m
    · have hin : kIn (I (knd n m)) 4 := by unfold kIn; rw [I_toInt (by omega)]; omega
      have hs2 : s = nts o0 o1 L R i := by
        unfold nts
        rw [hs, q]
        have : ned o1 R i = Sm o1 (ri + m) - Sm o1 ri := by unfold ned; rw [e6, e4]
        omega
      rw [if_pos (by rw [I_le (by omega)]; omega), if_pos hin, if_pos hin, hs2, cz_at (by omega), I_l1, I_add, cz_up (by omega), I_sub, I_sub]
      by_cases z : A ≤ B
      · rw [if_pos (by rw [I_le (by omega)]; exact z), show ab (A - B) = B - A by unfold ab; split <;> omega]
        exact tg_339 d G hA hB
      · rw [if_neg (by rw [I_le (by omega)]; exact z), show ab (A - B) = A - B by unfold ab; split <;> omega]
        exact tg_339 d G hA hB
    · rw [if_neg (by rw [I_le (by omega)]; omega)]
      have qv : 0 ≤ v ∧ v < n1 := by omega
      obtain ⟨j, hj⟩ := ex_F (P := c1) (p := c1 v) (g := n1) ⟨v, qv.1, qv.2, rfl⟩
      obtain ⟨u0, u1, u2⟩ := tg_b1 d qv hi (by omega) (by omega)
      have e7 : Sm o1 (v + 1) = Sm o1 v + o1 v := Sm_s (by omega)
      have fin := ih (s + o1 v) (v + 1) (by omega) (by omega) (by omega) (by omega)
      refine obind (q_v3 d.b1 qv hj) (obind u0 ((if_pos rfl).trans (obind u1 ?_)))
      rw [I_add]
      unfold pL_groups_j270 pL_groups_j297
      by_cases z : n = 0
      · rw [if_pos (by rw [z]; rfl), if_pos (by rw [if_pos (by omega)]; rfl)]
        refine obind u2 ?_
        rw [if_pos (by rw [z]; rfl), if_pos (by rw [if_pos (by omega)]; rfl), I_l1, I_add]
        exact fin
      · rw [if_neg (by rw [I_l0, I_eq (by omega)]; exact z), if_pos (by rw [if_neg (by omega), e3])]
        refine obind u2 ?_
        rw [if_neg (by rw [I_l0, I_eq (by omega)]; exact z), if_pos (by rw [if_neg (by omega), I_l1, I_add, I_sub, e3, e1]), I_l1, I_add]
        exact fin
theorem tg_108 (d : dX x c0 l0 o0 n0 c1 l1 o1 n1 L R g k w0 w1 ph h) (G : gI L R n0 n1 g i n m le ri) {K : (Nat → Int32) → Int32 → Int32 → Int32 → Int32 → Int32 → Option Int32} {F : Int → Int} {em A B : Int} (hA : A = ned (vln c0 l0 w0 h) L i) (hB : B = ned (vln c1 l1 w1 h) R i) : ∀ (mm : Nat) (s v : Int), le ≤ v → v ≤ le + n → le + n - v < mm → s = Sm o0 v - Sm o0 le → pL_groups_L108 x K mm (cz F) (I h) (I le) (I ri) (I em) (I i) (I n) (I m) (I (knd n m)) (I A) (I B) (I s) (I v) = K (cz (up F (knd n m) (F (knd n m) + 1))) (I h) (I (le + n)) (I (ri + m)) (I (em + ab (A - B))) (I (i + 1)) := by
  have G' := G
  obtain ⟨hi, e1, e2, e3, e4, e5, e6, hn, hm, hnm, hl, hr, hg⟩ := G'
  intro mm
  induction mm with
  | zero => intro s v a1 a2 a3; omega
  | succ mm ih =>
    intro s v a1 a2 a3 hs
    show pL_groups_bL108 _ _ _ _ _ _ _ _ _ _ _ _ _ _ _ _ = _
    unfold pL_groups_bL108
    rw [I_add]
    by_cases q : v = le + n
    · rw [if_pos (by rw [I_le (by omega)]; omega)]
      exact tg_216 d G hA hB 4000 s ri (by omega) (by omega) (by omega) (by
        have : ned o0 L i = Sm o0 (le + n) - Sm o0 le := by unfold ned; rw [e5, e3]
        rw [hs, q]
        omega)
    · rw [if_neg (by rw [I_le (by omega)]; omega)]
      have qv : 0 ≤ v ∧ v < n0 := by omega
      obtain ⟨j, hj⟩ := ex_F (P := c0) (p := c0 v) (g := n0) ⟨v, qv.1, qv.2, rfl⟩
      obtain ⟨u0, u1, u2, u3⟩ := tg_b0 d qv hi (by omega) (by omega)
      have e7 : Sm o0 (v + 1) = Sm o0 v + o0 v := Sm_s (by omega)
      have fin := ih (s + o0 v) (v + 1) (by omega) (by omega) (by omega) (by omega)
      refine obind (q_v3 d.b0 qv hj) (obind u0 ((if_pos rfl).trans (obind u1 ?_)))
      rw [I_add]
      unfold pL_groups_j162 pL_groups_j189
      by_cases z : m = 0
      · rw [if_pos (by rw [z]; rfl), if_pos (by rw [if_pos (by omega)]; rfl)]
        refine obind u2 ?_
        rw [if_pos (by rw [z]; rfl), if_pos (by rw [if_pos (by omega)]; rfl)]
        refine obind u3 ((if_pos rfl).trans ?_)
        rw [I_l1, I_add]
        exact fin
      · rw [if_neg (by rw [I_l0, I_eq (by omega)]; exact z), if_pos (by rw [if_neg (by omega), e4])]
        refine obind u2 ?_
        rw [if_neg (by rw [I_l0, I_eq (by omega)]; exact z), if_pos (by rw [if_neg (by omega), I_l1, I_add, I_sub, e4, e2])]
        refine obind u3 ((if_pos rfl).trans ?_)
        rw [I_l1, I_add]
        exact fin
end TG
