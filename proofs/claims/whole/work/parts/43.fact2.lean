-- part
theorem f10_part_L {W V L R : Int → Int} {g a x y kk : Int} (h : (0 ≤ g ∧ g < 120) ∧ 0 ≤ a ∧ a < g) : ∀ (m : Nat) (X : Int → Int) (k : Int), a + 1 ≤ k → k ≤ g → k - (a + 1) < m → X 364 = g → (∀ i, k < i → i ≤ g → X (365 + i) = L (i - 1) ∧ X (485 + i) = R (i - 1)) → (∀ i, 0 ≤ i → i ≤ k → i < g → X (365 + i) = L i ∧ X (485 + i) = R i) → (∀ i, i < 364 → X i = W i) → ∃ X2 : Int → Int, rM X2 (g + 1) (ctf L a x) (ctf R a y) ∧ (∀ i, i < 364 → X2 i = W i) ∧ pX10_part_L90 m (cz X) (cz V) (I kk) (I a) (I x) (I y) (I (L a - x)) (I (R a - y)) (I k) = some (I (g + 1), cz X2, cz V, I kk) := by
  intro m
  induction m with
  | zero => intro X k h0 h1 h2; omega
  | succ m ih =>
    intro X k h0 h1 h2 hg hhi hlo hW
    by_cases q : k = a + 1
    · have eG : up (up (up (up (up X 364 (g + 1)) (365 + a) x) (485 + a) y) (365 + a + 1) (L a - x)) (485 + a + 1) (R a - y) 364 = g + 1 := by
        rw [up_ne (by omega), up_ne (by omega), up_ne (by omega), up_ne (by omega), up_at rfl]
      refine ⟨up (up (up (up (up X 364 (g + 1)) (365 + a) x) (485 + a) y) (365 + a + 1) (L a - x)) (485 + a + 1) (R a - y), ⟨eG, fun i u v => ?_⟩, fun i u => ?_, ?_⟩
      · unfold ctf
        by_cases z : i < a
        · rw [if_pos z, if_pos z, up_ne (by omega), up_ne (by omega), up_ne (by omega), up_ne (by omega), up_ne (by omega), up_ne (by omega), up_ne (by omega), up_ne (by omega), up_ne (by omega), up_ne (by omega)]
          exact hlo i u (by omega) (by omega)
        · by_cases z2 : i = a
          · rw [if_neg z, if_pos z2, if_neg z, if_pos z2, up_ne (by omega), up_ne (by omega), up_ne (by omega), up_at (by omega), up_ne (by omega), up_ne (by omega), up_at (by omega)]
            exact ⟨rfl, rfl⟩
          · by_cases z3 : i = a + 1
            · rw [if_neg z, if_neg z2, if_pos z3, if_neg z, if_neg z2, if_pos z3, up_ne (by omega), up_at (by omega), up_at (by omega)]
              exact ⟨rfl, rfl⟩
            · rw [if_neg z, if_neg z2, if_neg z3, if_neg z, if_neg z2, if_neg z3, up_ne (by omega), up_ne (by omega), up_ne (by omega), up_ne (by omega), up_ne (by omega), up_ne (by omega), up_ne (by omega), up_ne (by omega), up_ne (by omega), up_ne (by omega)]
              exact hhi i (by omega) (by omega)
      · rw [up_ne (by omega), up_ne (by omega), up_ne (by omega), up_ne (by omega), up_ne (by omega)]
        exact hW i u
      · show pX10_part_bL90 _ _ _ _ _ _ _ _ _ _ = _
        unfold pX10_part_bL90
        simp (disch := omega) only [if_true, if_false, I_add, I_sub, I_mul, I_neg, I_ofNat, Option.bind_some, kIn, I_l0, I_l1, I_l2, I_l3, I_l4, I_l5, I_l6, I_l8, I_l9, I_l10, I_l11, I_l32, I_l40, I_l43, I_l44, I_l45, I_l48, I_l49, I_l57, I_l58, I_l60, I_l61, I_l62, I_l79, I_l80, I_l100, I_l120, I_l180, I_l200, I_l240, I_l300, I_l360, I_l361, I_l362, I_l363, I_l364, I_l365, I_l485, I_l605, I_l1999, I_l2000, I_le, I_lt, I_eq, I_toInt, cz_at, cz_up, if_pos, if_neg]
        rw [hg, f10_groups, eG]
        simp only [if_true, if_false, I_add, I_sub, I_mul, I_neg, I_ofNat, Option.bind_some, kIn, I_l0, I_l1, I_l2, I_l3, I_l4, I_l5, I_l6, I_l8, I_l9, I_l10, I_l11, I_l32, I_l40, I_l43, I_l44, I_l45, I_l48, I_l49, I_l57, I_l58, I_l60, I_l61, I_l62, I_l79, I_l80, I_l100, I_l120, I_l180, I_l200, I_l240, I_l300, I_l360, I_l361, I_l362, I_l363, I_l364, I_l365, I_l485, I_l605, I_l1999, I_l2000]
    · have h3 := hlo (k - 1) (by omega) (by omega) (by omega)
      obtain ⟨X2, t1, t2, t3⟩ := ih (up (up X (365 + k) (L (k - 1))) (485 + k) (R (k - 1))) (k + -1) (by omega) (by omega) (by omega) (by rw [up_ne (by omega), up_ne (by omega)]; exact hg) (fun i u v => by
        by_cases z : i = k
        · rw [z, up_ne (by omega), up_at rfl, up_at rfl]
          exact ⟨rfl, rfl⟩
        · rw [up_ne (by omega), up_ne (by omega), up_ne (by omega), up_ne (by omega)]
          exact hhi i (by omega) v) (fun i u v w => by
        rw [up_ne (by omega), up_ne (by omega), up_ne (by omega), up_ne (by omega)]
        exact hlo i u (by omega) w) (fun i u => by rw [up_ne (by omega), up_ne (by omega)]; exact hW i u)
      refine ⟨X2, t1, t2, ?_⟩
      show pX10_part_bL90 _ _ _ _ _ _ _ _ _ _ = _
      unfold pX10_part_bL90
      simp (disch := omega) only [if_true, if_false, I_add, I_sub, I_mul, I_neg, I_ofNat, Option.bind_some, kIn, I_l0, I_l1, I_l2, I_l3, I_l4, I_l5, I_l6, I_l8, I_l9, I_l10, I_l11, I_l32, I_l40, I_l43, I_l44, I_l45, I_l48, I_l49, I_l57, I_l58, I_l60, I_l61, I_l62, I_l79, I_l80, I_l100, I_l120, I_l180, I_l200, I_l240, I_l300, I_l360, I_l361, I_l362, I_l363, I_l364, I_l365, I_l485, I_l605, I_l1999, I_l2000, I_le, I_lt, I_eq, I_toInt, cz_at, cz_up, if_pos, if_neg]
      rw [up_ne (by omega), show 365 + k - 1 = 365 + (k - 1) by omega, show 485 + k - 1 = 485 + (k - 1) by omega, h3.1, h3.2]
      exact t3
theorem okM_ctf {g m n a x y : Int} {L R : Int → Int} (h : okM g L R m n) (hmn : m ≤ 60 ∧ n ≤ 60) (ha : 0 ≤ a ∧ a < g) (hx : 0 ≤ x ∧ x ≤ L a) (hy : 0 ≤ y ∧ y ≤ R a) (h1 : ¬ x + y = 0) (h2 : ¬ L a - x + (R a - y) = 0) : okM (g + 1) (ctf L a x) (ctf R a y) m n := by
  refine okM_mk (by omega) (fun i u v => ?_) ((Sm_ctf ha).trans h.2.2.1) ((Sm_ctf ha).trans h.2.2.2) hmn
  unfold ctf
  by_cases z : i < a
  · rw [if_pos z, if_pos z]
    have := h.2.1 i u (by omega)
    omega
  · by_cases z2 : i = a
    · rw [if_neg z, if_pos z2, if_neg z, if_pos z2]
      omega
    · by_cases z3 : i = a + 1
      · rw [if_neg z, if_neg z2, if_pos z3, if_neg z, if_neg z2, if_pos z3]
        omega
      · rw [if_neg z, if_neg z2, if_neg z3, if_neg z, if_neg z2, if_neg z3]
        have := h.2.1 (i - 1) (by omega) (by omega)
        omega
-- pairs
def p01 (n : Int) : Int → Int := fun j => if j < n then 1 else 0
theorem Sm_p01 {n e : Int} (h : 0 ≤ n ∧ n ≤ e) : Sm (p01 n) e = n := by
  have e1 : Sm (p01 n) n = n := by
    have : ∀ k, 0 ≤ k → k ≤ n → Sm (p01 n) k = k := by
      intro k hk
      refine zind (P := fun k => k ≤ n → Sm (p01 n) k = k) (fun _ => rfl) (fun k hk ih hn => ?_) k hk
      rw [Sm_s hk, ih (by omega)]
      show k + (if k < n then 1 else 0) = k + 1
      rw [if_pos (by omega)]
    exact this n h.1 (Int.le_refl _)
  refine zindR (P := fun e => Sm (p01 n) e = n) n e1 (fun k hk ih => ?_) e h.2
  rw [Sm_s (by omega), ih]
  show n + (if k < n then 1 else 0) = n
  rw [if_neg (by omega)]
  omega
theorem okM_p01 {n0 n1 : Int} (h0 : 0 ≤ n0 ∧ n0 ≤ 60) (h1 : 0 ≤ n1 ∧ n1 ≤ 60) : okM (mx n0 n1) (p01 n0) (p01 n1) n0 n1 := by
  have hm : n0 ≤ mx n0 n1 ∧ n1 ≤ mx n0 n1 ∧ (mx n0 n1 = n0 ∨ mx n0 n1 = n1) := by
    unfold mx
    split <;> omega
  refine okM_mk (by omega) (fun i a b => ?_) (Sm_p01 (by omega)) (Sm_p01 (by omega)) (by omega)
  unfold p01
  by_cases z : i < n0
  · rw [if_pos z]
    by_cases z1 : i < n1
    · rw [if_pos z1]; omega
    · rw [if_neg z1]; omega
  · rw [if_neg z, if_pos (by omega)]
    omega
theorem f10_addGroup {X : Int → Int} {g x y : Int} (h : 0 ≤ g ∧ g < 120) (hg : X 364 = g) : pX10_addGroup (cz X) (I x) (I y) = some (cz (up (up (up X (365 + g) x) (485 + g) y) 364 (g + 1))) := by
  unfold pX10_addGroup
  rw [f10_groups, hg]
  simp (disch := omega) only [if_true, if_false, I_add, I_sub, I_mul, I_neg, I_ofNat, Option.bind_some, kIn, I_l0, I_l1, I_l2, I_l3, I_l4, I_l5, I_l6, I_l8, I_l9, I_l10, I_l11, I_l32, I_l40, I_l43, I_l44, I_l45, I_l48, I_l49, I_l57, I_l58, I_l60, I_l61, I_l62, I_l79, I_l80, I_l100, I_l120, I_l180, I_l200, I_l240, I_l300, I_l360, I_l361, I_l362, I_l363, I_l364, I_l365, I_l485, I_l605, I_l1999, I_l2000, I_le, I_lt, I_eq, I_toInt, cz_at, cz_up, if_pos, if_neg]
  rw [f10_groups, up_ne (by omega), hg]
  simp (disch := omega) only [if_true, if_false, I_add, I_sub, I_mul, I_neg, I_ofNat, Option.bind_some, kIn, I_l0, I_l1, I_l2, I_l3, I_l4, I_l5, I_l6, I_l8, I_l9, I_l10, I_l11, I_l32, I_l40, I_l43, I_l44, I_l45, I_l48, I_l49, I_l57, I_l58, I_l60, I_l61, I_l62, I_l79, I_l80, I_l100, I_l120, I_l180, I_l200, I_l240, I_l300, I_l360, I_l361, I_l362, I_l363, I_l364, I_l365, I_l485, I_l605, I_l1999, I_l2000, I_le, I_lt, I_eq, I_toInt, cz_at, cz_up, if_pos, if_neg]
  rw [up_ne (by omega), up_ne (by omega), hg]
-- the row of the reference with groups laid so far
def rP (X W : Int → Int) (k : Int) (P Q : Int → Int) : Prop := X 364 = k ∧ (∀ j, 0 ≤ j → j < k → X (365 + j) = P j ∧ X (485 + j) = Q j) ∧ ∀ i, i < 364 → X i = W i
theorem rP.add {X W P Q : Int → Int} {k : Int} (hk : 0 ≤ k ∧ k < 120) (r : rP X W k P Q) : rP (up (up (up X (365 + k) (P k)) (485 + k) (Q k)) 364 (k + 1)) W (k + 1) P Q := by
  obtain ⟨r1, r2, r3⟩ := r
  refine ⟨up_at rfl, fun j a b => ?_, fun i a => ?_⟩
  · by_cases z : j = k
    · rw [z, up_ne (by omega), up_ne (by omega), up_at rfl, up_ne (by omega), up_at rfl]
      exact ⟨rfl, rfl⟩
    · rw [up_ne (by omega), up_ne (by omega), up_ne (by omega), up_ne (by omega), up_ne (by omega), up_ne (by omega)]
      exact r2 j a (by omega)
  · rw [up_ne (by omega), up_ne (by omega), up_ne (by omega)]
    exact r3 i a
theorem rP.m {X W P Q : Int → Int} {k : Int} (r : rP X W k P Q) : rM X k P Q := ⟨r.1, r.2.1⟩
theorem f10_pair61 {W V : Int → Int} {n0 n1 kk : Int} (h0 : 0 ≤ n0 ∧ n0 ≤ 60) (h1 : 0 ≤ n1 ∧ n1 ≤ 60) (w0 : W 360 = n0) (w1 : W 361 = n1) : ∀ (m : Nat) (X : Int → Int) (k : Int), 0 ≤ k → k ≤ mx n0 n1 → mx n0 n1 - k < m → rP X W k (p01 n0) (p01 n1) → ∃ X2 : Int → Int, rP X2 W (mx n0 n1) (p01 n0) (p01 n1) ∧ pX10_pairAll_L61 m (cz X) (cz V) (I kk) (I k) = some (I (mx n0 n1), cz X2, cz V, I kk) := by
  have hm : n0 ≤ mx n0 n1 ∧ n1 ≤ mx n0 n1 ∧ (mx n0 n1 = n0 ∨ mx n0 n1 = n1) := by
    unfold mx
    split <;> omega
  intro m
  induction m with
  | zero => intro X k a b c; omega
  | succ m ih =>
    intro X k a b c r
    have z0 : X (360 + 0) = n0 := by rw [show (360 : Int) + 0 = 360 from rfl, r.2.2 360 (by omega)]; exact w0
    have z1 : X (360 + 1) = n1 := by rw [show (360 : Int) + 1 = 361 from rfl, r.2.2 361 (by omega)]; exact w1
    by_cases q : k = mx n0 n1
    · refine ⟨X, by rw [← q]; exact r, ?_⟩
      show pX10_pairAll_bL61 _ _ _ _ _ = _
      unfold pX10_pairAll_bL61
      simp only [if_true, if_false, I_add, I_sub, I_mul, I_neg, I_ofNat, Option.bind_some, kIn, I_l0, I_l1, I_l2, I_l3, I_l4, I_l5, I_l6, I_l8, I_l9, I_l10, I_l11, I_l32, I_l40, I_l43, I_l44, I_l45, I_l48, I_l49, I_l57, I_l58, I_l60, I_l61, I_l62, I_l79, I_l80, I_l100, I_l120, I_l180, I_l200, I_l240, I_l300, I_l360, I_l361, I_l362, I_l363, I_l364, I_l365, I_l485, I_l605, I_l1999, I_l2000]
      rw [f10_size (by omega), f10_size (by omega), f10_groups, z0, z1, r.1, ← q]
      simp (disch := omega) only [if_true, if_false, I_add, I_sub, I_mul, I_neg, I_ofNat, Option.bind_some, kIn, I_l0, I_l1, I_l2, I_l3, I_l4, I_l5, I_l6, I_l8, I_l9, I_l10, I_l11, I_l32, I_l40, I_l43, I_l44, I_l45, I_l48, I_l49, I_l57, I_l58, I_l60, I_l61, I_l62, I_l79, I_l80, I_l100, I_l120, I_l180, I_l200, I_l240, I_l300, I_l360, I_l361, I_l362, I_l363, I_l364, I_l365, I_l485, I_l605, I_l1999, I_l2000, I_le, I_lt, if_pos, if_neg]
    · obtain ⟨X2, t1, t2⟩ := ih _ (k + 1) (by omega) (by omega) (by omega) (r.add (by omega))
      refine ⟨X2, t1, ?_⟩
      show pX10_pairAll_bL61 _ _ _ _ _ = _
      unfold pX10_pairAll_bL61 pX10_pairAll_j79 pX10_pairAll_j94 pX10_pairAll_j108
      simp only [if_true, if_false, I_add, I_sub, I_mul, I_neg, I_ofNat, Option.bind_some, kIn, I_l0, I_l1, I_l2, I_l3, I_l4, I_l5, I_l6, I_l8, I_l9, I_l10, I_l11, I_l32, I_l40, I_l43, I_l44, I_l45, I_l48, I_l49, I_l57, I_l58, I_l60, I_l61, I_l62, I_l79, I_l80, I_l100, I_l120, I_l180, I_l200, I_l240, I_l300, I_l360, I_l361, I_l362, I_l363, I_l364, I_l365, I_l485, I_l605, I_l1999, I_l2000]
      rw [f10_size (by omega), f10_size (by omega), z0, z1]
      have g11 := f10_addGroup (X := X) (g := k) (x := 1) (y := 1) (by omega) r.1
      have g10 := f10_addGroup (X := X) (g := k) (x := 1) (y := 0) (by omega) r.1
      have g01 := f10_addGroup (X := X) (g := k) (x := 0) (y := 1) (by omega) r.1
      unfold p01 at t2
      by_cases q0 : k < n0
      · rw [if_pos q0] at t2
        by_cases q1 : k < n1
        · rw [if_pos q1] at t2
          simp (disch := omega) only [if_true, if_false, I_add, I_sub, I_mul, I_neg, I_ofNat, Option.bind_some, kIn, I_l0, I_l1, I_l2, I_l3, I_l4, I_l5, I_l6, I_l8, I_l9, I_l10, I_l11, I_l32, I_l40, I_l43, I_l44, I_l45, I_l48, I_l49, I_l57, I_l58, I_l60, I_l61, I_l62, I_l79, I_l80, I_l100, I_l120, I_l180, I_l200, I_l240, I_l300, I_l360, I_l361, I_l362, I_l363, I_l364, I_l365, I_l485, I_l605, I_l1999, I_l2000, I_le, I_lt, if_pos, if_neg]
          rw [g11]
          simp only [if_true, if_false, I_add, I_sub, I_mul, I_neg, I_ofNat, Option.bind_some, kIn, I_l0, I_l1, I_l2, I_l3, I_l4, I_l5, I_l6, I_l8, I_l9, I_l10, I_l11, I_l32, I_l40, I_l43, I_l44, I_l45, I_l48, I_l49, I_l57, I_l58, I_l60, I_l61, I_l62, I_l79, I_l80, I_l100, I_l120, I_l180, I_l200, I_l240, I_l300, I_l360, I_l361, I_l362, I_l363, I_l364, I_l365, I_l485, I_l605, I_l1999, I_l2000]
          exact t2
        · rw [if_neg q1] at t2
          simp (disch := omega) only [if_true, if_false, I_add, I_sub, I_mul, I_neg, I_ofNat, Option.bind_some, kIn, I_l0, I_l1, I_l2, I_l3, I_l4, I_l5, I_l6, I_l8, I_l9, I_l10, I_l11, I_l32, I_l40, I_l43, I_l44, I_l45, I_l48, I_l49, I_l57, I_l58, I_l60, I_l61, I_l62, I_l79, I_l80, I_l100, I_l120, I_l180, I_l200, I_l240, I_l300, I_l360, I_l361, I_l362, I_l363, I_l364, I_l365, I_l485, I_l605, I_l1999, I_l2000, I_le, I_lt, if_pos, if_neg]
          rw [g10]
          simp only [if_true, if_false, I_add, I_sub, I_mul, I_neg, I_ofNat, Option.bind_some, kIn, I_l0, I_l1, I_l2, I_l3, I_l4, I_l5, I_l6, I_l8, I_l9, I_l10, I_l11, I_l32, I_l40, I_l43, I_l44, I_l45, I_l48, I_l49, I_l57, I_l58, I_l60, I_l61, I_l62, I_l79, I_l80, I_l100, I_l120, I_l180, I_l200, I_l240, I_l300, I_l360, I_l361, I_l362, I_l363, I_l364, I_l365, I_l485, I_l605, I_l1999, I_l2000]
          exact t2
      · rw [if_neg q0, if_pos (by omega)] at t2
        simp (disch := omega) only [if_true, if_false, I_add, I_sub, I_mul, I_neg, I_ofNat, Option.bind_some, kIn, I_l0, I_l1, I_l2, I_l3, I_l4, I_l5, I_l6, I_l8, I_l9, I_l10, I_l11, I_l32, I_l40, I_l43, I_l44, I_l45, I_l48, I_l49, I_l57, I_l58, I_l60, I_l61, I_l62, I_l79, I_l80, I_l100, I_l120, I_l180, I_l200, I_l240, I_l300, I_l360, I_l361, I_l362, I_l363, I_l364, I_l365, I_l485, I_l605, I_l1999, I_l2000, I_le, I_lt, if_pos, if_neg]
        rw [g01]
        simp only [if_true, if_false, I_add, I_sub, I_mul, I_neg, I_ofNat, Option.bind_some, kIn, I_l0, I_l1, I_l2, I_l3, I_l4, I_l5, I_l6, I_l8, I_l9, I_l10, I_l11, I_l32, I_l40, I_l43, I_l44, I_l45, I_l48, I_l49, I_l57, I_l58, I_l60, I_l61, I_l62, I_l79, I_l80, I_l100, I_l120, I_l180, I_l200, I_l240, I_l300, I_l360, I_l361, I_l362, I_l363, I_l364, I_l365, I_l485, I_l605, I_l1999, I_l2000]
        exact t2
theorem f10_pair42 {W V : Int → Int} {n0 n1 kk : Int} (h0 : 0 ≤ n0 ∧ n0 ≤ 60) (h1 : 0 ≤ n1 ∧ n1 ≤ 60) (w0 : W 360 = n0) (w1 : W 361 = n1) {mn : Int} (hmn : 0 ≤ mn ∧ mn ≤ n0 ∧ mn ≤ n1) : ∀ (m : Nat) (X : Int → Int) (k : Int), 0 ≤ k → k ≤ mn → mn - k < m → rP X W k (p01 n0) (p01 n1) → ∃ X2 : Int → Int, rP X2 W (mx n0 n1) (p01 n0) (p01 n1) ∧ pX10_pairAll_L42 m (cz X) (cz V) (I kk) (I mn) (I k) = some (I (mx n0 n1), cz X2, cz V, I kk) := by
  have hm : n0 ≤ mx n0 n1 ∧ n1 ≤ mx n0 n1 ∧ (mx n0 n1 = n0 ∨ mx n0 n1 = n1) := by
    unfold mx
    split <;> omega
  intro m
  induction m with
  | zero => intro X k a b c; omega
  | succ m ih =>
    intro X k a b c r
    by_cases q : k = mn
    · obtain ⟨X2, t1, t2⟩ := f10_pair61 (V := V) (kk := kk) h0 h1 w0 w1 4000 X k a (by omega) (by omega) r
      refine ⟨X2, t1, ?_⟩
      show pX10_pairAll_bL42 _ _ _ _ _ _ = _
      unfold pX10_pairAll_bL42
      simp (disch := omega) only [if_true, if_false, I_add, I_sub, I_mul, I_neg, I_ofNat, Option.bind_some, kIn, I_l0, I_l1, I_l2, I_l3, I_l4, I_l5, I_l6, I_l8, I_l9, I_l10, I_l11, I_l32, I_l40, I_l43, I_l44, I_l45, I_l48, I_l49, I_l57, I_l58, I_l60, I_l61, I_l62, I_l79, I_l80, I_l100, I_l120, I_l180, I_l200, I_l240, I_l300, I_l360, I_l361, I_l362, I_l363, I_l364, I_l365, I_l485, I_l605, I_l1999, I_l2000, I_le, if_pos]
      rw [← q]
      exact t2
    · obtain ⟨X2, t1, t2⟩ := ih _ (k + 1) (by omega) (by omega) (by omega) (r.add (by omega))
      refine ⟨X2, t1, ?_⟩
      show pX10_pairAll_bL42 _ _ _ _ _ _ = _
      unfold pX10_pairAll_bL42
      unfold p01 at t2
      rw [if_pos (by omega), if_pos (by omega)] at t2
      simp (disch := omega) only [if_true, if_false, I_add, I_sub, I_mul, I_neg, I_ofNat, Option.bind_some, kIn, I_l0, I_l1, I_l2, I_l3, I_l4, I_l5, I_l6, I_l8, I_l9, I_l10, I_l11, I_l32, I_l40, I_l43, I_l44, I_l45, I_l48, I_l49, I_l57, I_l58, I_l60, I_l61, I_l62, I_l79, I_l80, I_l100, I_l120, I_l180, I_l200, I_l240, I_l300, I_l360, I_l361, I_l362, I_l363, I_l364, I_l365, I_l485, I_l605, I_l1999, I_l2000, I_le, if_neg]
      rw [f10_addGroup (g := k) (by omega) r.1]
      simp only [if_true, if_false, I_add, I_sub, I_mul, I_neg, I_ofNat, Option.bind_some, kIn, I_l0, I_l1, I_l2, I_l3, I_l4, I_l5, I_l6, I_l8, I_l9, I_l10, I_l11, I_l32, I_l40, I_l43, I_l44, I_l45, I_l48, I_l49, I_l57, I_l58, I_l60, I_l61, I_l62, I_l79, I_l80, I_l100, I_l120, I_l180, I_l200, I_l240, I_l300, I_l360, I_l361, I_l362, I_l363, I_l364, I_l365, I_l485, I_l605, I_l1999, I_l2000]
      exact t2
theorem f9_pair47 {n0 n1 : Int} (h0 : 0 ≤ n0 ∧ n0 ≤ 60) (h1 : 0 ≤ n1 ∧ n1 ≤ 60) {a0 a1 a2 b0 b1 b2 : Nat → Int32} {hk : Int32} {r : Nat} {t0 t1 t2 t3 t4 : vST} : ∀ (m : Nat) (A B : Int → Int) (k : Int), 0 ≤ k → k ≤ mx n0 n1 → mx n0 n1 - k < m → (∀ j, 0 ≤ j → j < k → A j = p01 n0 j ∧ B j = p01 n1 j) → ∃ A2 B2 : Int → Int, (∀ j, 0 ≤ j → j < mx n0 n1 → A2 j = p01 n0 j ∧ B2 j = p01 n1 j) ∧ pX9_pairAll_L47 a0 a1 a2 (I n0) b0 b1 b2 (I n1) m (cz A) (cz B) (I k) hk r t0 t1 t2 t3 t4 (I (mx n0 n1)) (I k) = some (I (mx n0 n1), cz A2, cz B2, I (mx n0 n1), hk, r, t0, t1, t2, t3, t4) := by
  have hm : n0 ≤ mx n0 n1 ∧ n1 ≤ mx n0 n1 ∧ (mx n0 n1 = n0 ∨ mx n0 n1 = n1) := by
    unfold mx
    split <;> omega
  intro m
  induction m with
  | zero => intro A B k a b c; omega
  | succ m ih =>
    intro A B k a b c hj
    by_cases q : k = mx n0 n1
    · refine ⟨A, B, by rw [← q]; exact hj, ?_⟩
      show pX9_pairAll_bL47 _ _ _ _ _ _ _ _ _ _ _ _ _ _ _ _ _ _ _ _ _ = _
      unfold pX9_pairAll_bL47
      rw [← q]
      simp (disch := omega) only [if_true, if_false, I_add, I_sub, I_mul, I_neg, I_ofNat, Option.bind_some, kIn, I_l0, I_l1, I_l2, I_l3, I_l4, I_l5, I_l6, I_l8, I_l9, I_l10, I_l11, I_l32, I_l40, I_l43, I_l44, I_l45, I_l48, I_l49, I_l57, I_l58, I_l60, I_l61, I_l62, I_l79, I_l80, I_l100, I_l120, I_l180, I_l200, I_l240, I_l300, I_l360, I_l361, I_l362, I_l363, I_l364, I_l365, I_l485, I_l605, I_l1999, I_l2000, I_le, if_pos]
    · obtain ⟨A2, B2, u1, u2⟩ := ih (up A k (p01 n0 k)) (up B k (p01 n1 k)) (k + 1) (by omega) (by omega) (by omega) (fun j x y => by
        by_cases z : j = k
        · rw [z, up_at rfl, up_at rfl]; exact ⟨rfl, rfl⟩
        · rw [up_ne z, up_ne z]; exact hj j x (by omega))
      refine ⟨A2, B2, u1, ?_⟩
      show pX9_pairAll_bL47 _ _ _ _ _ _ _ _ _ _ _ _ _ _ _ _ _ _ _ _ _ = _
      unfold pX9_pairAll_bL47 pX9_pairAll_j78 pX9_pairAll_j97
      simp only [if_true, if_false, I_add, I_sub, I_mul, I_neg, I_ofNat, Option.bind_some, kIn, I_l0, I_l1, I_l2, I_l3, I_l4, I_l5, I_l6, I_l8, I_l9, I_l10, I_l11, I_l32, I_l40, I_l43, I_l44, I_l45, I_l48, I_l49, I_l57, I_l58, I_l60, I_l61, I_l62, I_l79, I_l80, I_l100, I_l120, I_l180, I_l200, I_l240, I_l300, I_l360, I_l361, I_l362, I_l363, I_l364, I_l365, I_l485, I_l605, I_l1999, I_l2000]
      rw [f1_append (by omega), f1_append (by omega), f1_append (by omega), f1_append (by omega)]
      unfold p01 at u2
      by_cases q0 : k < n0
      · rw [if_pos q0] at u2
        by_cases q1 : k < n1
        · rw [if_pos q1] at u2
          simp (disch := omega) only [if_true, if_false, I_add, I_sub, I_mul, I_neg, I_ofNat, Option.bind_some, kIn, I_l0, I_l1, I_l2, I_l3, I_l4, I_l5, I_l6, I_l8, I_l9, I_l10, I_l11, I_l32, I_l40, I_l43, I_l44, I_l45, I_l48, I_l49, I_l57, I_l58, I_l60, I_l61, I_l62, I_l79, I_l80, I_l100, I_l120, I_l180, I_l200, I_l240, I_l300, I_l360, I_l361, I_l362, I_l363, I_l364, I_l365, I_l485, I_l605, I_l1999, I_l2000, I_le, if_pos, if_neg]
          exact u2
        · rw [if_neg q1] at u2
          simp (disch := omega) only [if_true, if_false, I_add, I_sub, I_mul, I_neg, I_ofNat, Option.bind_some, kIn, I_l0, I_l1, I_l2, I_l3, I_l4, I_l5, I_l6, I_l8, I_l9, I_l10, I_l11, I_l32, I_l40, I_l43, I_l44, I_l45, I_l48, I_l49, I_l57, I_l58, I_l60, I_l61, I_l62, I_l79, I_l80, I_l100, I_l120, I_l180, I_l200, I_l240, I_l300, I_l360, I_l361, I_l362, I_l363, I_l364, I_l365, I_l485, I_l605, I_l1999, I_l2000, I_le, if_pos, if_neg]
          exact u2
      · rw [if_neg q0, if_pos (by omega)] at u2
        simp (disch := omega) only [if_true, if_false, I_add, I_sub, I_mul, I_neg, I_ofNat, Option.bind_some, kIn, I_l0, I_l1, I_l2, I_l3, I_l4, I_l5, I_l6, I_l8, I_l9, I_l10, I_l11, I_l32, I_l40, I_l43, I_l44, I_l45, I_l48, I_l49, I_l57, I_l58, I_l60, I_l61, I_l62, I_l79, I_l80, I_l100, I_l120, I_l180, I_l200, I_l240, I_l300, I_l360, I_l361, I_l362, I_l363, I_l364, I_l365, I_l485, I_l605, I_l1999, I_l2000, I_le, if_pos, if_neg]
        exact u2
section ACT2
variable {k : Int} {s0 s1 s2 s3 s4 : vST} {V W : Int → Int} {vL0 vL1 vL2 : Nat → Int32} {vL3 : Int32} {vR0 vR1 vR2 : Nat → Int32} {vR3 : Int32} {vM0 vM1 : Nat → Int32} {vM2 : Int32}
theorem e_part (hH : rH k s0 s1 s2 s3 s4 V) (hS : rS ((vL0, vL1, vL2, vL3), (vR0, vR1, vR2, vR3), (vM0, vM1, vM2)) W) (i1 i2 i3 : Int32) : ∃ (a : Int32) (m0 m1 : Nat → Int32) (m2 : Int32) (k2 : Int) (r : Nat) (t0 t1 t2 t3 t4 : vST) (V2 W2 : Int → Int), pX9_part vL0 vL1 vL2 vL3 vR0 vR1 vR2 vR3 vM0 vM1 vM2 (I k) s0 s1 s2 s3 s4 i1 i2 i3 = some (a, m0, m1, m2, I k2, r, t0, t1, t2, t3, t4) ∧ pX10_part (cz W) (cz V) (I k) i1 i2 i3 = some (a, cz W2, cz V2, I k2) ∧ rS ((vL0, vL1, vL2, vL3), (vR0, vR1, vR2, vR3), (m0, m1, m2)) W2 ∧ rHr r k2 t0 t1 t2 t3 t4 V2 := by
  obtain ⟨a, ha, rfl⟩ := I_of i1
  obtain ⟨x, hx, rfl⟩ := I_of i2
  obtain ⟨y, hy, rfl⟩ := I_of i3
  obtain ⟨c0, l0, o0, n0, c1, l1, o1, n1, L, R, g, e, k0, k1, kM, r0, r1, rm⟩ := id hS
  simp only [Prod.mk.injEq] at e
  obtain ⟨⟨rfl, rfl, rfl, rfl⟩, ⟨rfl, rfl, rfl, rfl⟩, rfl, rfl, rfl⟩ := e
  have hg := kM.1
  by_cases q : 0 ≤ a ∧ a < g
  · have ka := kM.2.1 a q.1 q.2
    by_cases qx : 0 ≤ x ∧ x ≤ 60
    · by_cases qy : 0 ≤ y ∧ y ≤ 60
      · by_cases qb : L a - x < 0 ∨ R a - y < 0 ∨ x + y = 0 ∨ L a - x + (R a - y) = 0
        · refine ⟨I (-4), cz L, cz R, I g, k, 0, s0, s1, s2, s3, s4, V, W, ?_, ?_, hS, Or.inl ⟨rfl, hH⟩⟩
          · unfold pX9_part
            simp only [if_true, if_false, I_add, I_sub, I_mul, I_neg, I_ofNat, Option.bind_some, kIn, I_l0, I_l1, I_l2, I_l3, I_l4, I_l5, I_l6, I_l8, I_l9, I_l10, I_l11, I_l32, I_l40, I_l43, I_l44, I_l45, I_l48, I_l49, I_l57, I_l58, I_l60, I_l61, I_l62, I_l79, I_l80, I_l100, I_l120, I_l180, I_l200, I_l240, I_l300, I_l360, I_l361, I_l362, I_l363, I_l364, I_l365, I_l485, I_l605, I_l1999, I_l2000]
            rw [f1_hasT (by omega), f9_isWithin (by omega), f9_isWithin (by omega), if_pos qx, if_pos qy, f1_sizeIn (by omega), f1_sizeIn (by omega), sel_0 rfl, sel_1 (by omega)]
            simp (disch := omega) only [if_true, if_false, I_add, I_sub, I_mul, I_neg, I_ofNat, Option.bind_some, kIn, I_l0, I_l1, I_l2, I_l3, I_l4, I_l5, I_l6, I_l8, I_l9, I_l10, I_l11, I_l32, I_l40, I_l43, I_l44, I_l45, I_l48, I_l49, I_l57, I_l58, I_l60, I_l61, I_l62, I_l79, I_l80, I_l100, I_l120, I_l180, I_l200, I_l240, I_l300, I_l360, I_l361, I_l362, I_l363, I_l364, I_l365, I_l485, I_l605, I_l1999, I_l2000, I_eq, I_lt, if_neg]
            repeat' split
            all_goals first | rfl | (exfalso; omega)
          · unfold pX10_part
            rw [f10_noGroup (by omega) rm.1, if_pos q]
            simp only [if_true, if_false, I_add, I_sub, I_mul, I_neg, I_ofNat, Option.bind_some, kIn, I_l0, I_l1, I_l2, I_l3, I_l4, I_l5, I_l6, I_l8, I_l9, I_l10, I_l11, I_l32, I_l40, I_l43, I_l44, I_l45, I_l48, I_l49, I_l57, I_l58, I_l60, I_l61, I_l62, I_l79, I_l80, I_l100, I_l120, I_l180, I_l200, I_l240, I_l300, I_l360, I_l361, I_l362, I_l363, I_l364, I_l365, I_l485, I_l605, I_l1999, I_l2000]
            rw [f10_in (by omega), f10_in (by omega), if_pos qx, if_pos qy, f10_has (g := g) (by omega) rm, f10_has (g := g) (by omega) rm, sel_0 rfl, sel_1 (by omega)]
            simp (disch := omega) only [if_true, if_false, I_add, I_sub, I_mul, I_neg, I_ofNat, Option.bind_some, kIn, I_l0, I_l1, I_l2, I_l3, I_l4, I_l5, I_l6, I_l8, I_l9, I_l10, I_l11, I_l32, I_l40, I_l43, I_l44, I_l45, I_l48, I_l49, I_l57, I_l58, I_l60, I_l61, I_l62, I_l79, I_l80, I_l100, I_l120, I_l180, I_l200, I_l240, I_l300, I_l360, I_l361, I_l362, I_l363, I_l364, I_l365, I_l485, I_l605, I_l1999, I_l2000, I_eq, I_lt, if_neg, if_true]
            repeat' split
            all_goals first | rfl | (exfalso; omega)
        · have g2 := okM_g2 kM q (by omega)
          have b0 := k0.1
          have b1 := k1.1
          obtain ⟨k2, r, t0, t1, t2, t3, t4, V2, hh, e1, e2⟩ := e_record hH hS
          obtain ⟨W2, u1, u2, u3⟩ := f10_part_L (W := W) (V := V2) (L := L) (R := R) (g := g) (a := a) (x := x) (y := y) (kk := k2) (by omega) 4000 W g (by omega) (by omega) (by omega) rm.1 (fun i u v => by omega) (fun i u v w => rm.2 i u w) (fun i _ => rfl)
          refine ⟨I (g + 1), cz (up (up (opn L 120 a g) a x) (a + 1) (L a - x)), cz (up (up (opn R 120 a g) a y) (a + 1) (R a - y)), I (g + 1), k2, r, t0, t1, t2, t3, t4, V2, W2, ?_, ?_, ?_, hh⟩
          · unfold pX9_part
            simp only [if_true, if_false, I_add, I_sub, I_mul, I_neg, I_ofNat, Option.bind_some, kIn, I_l0, I_l1, I_l2, I_l3, I_l4, I_l5, I_l6, I_l8, I_l9, I_l10, I_l11, I_l32, I_l40, I_l43, I_l44, I_l45, I_l48, I_l49, I_l57, I_l58, I_l60, I_l61, I_l62, I_l79, I_l80, I_l100, I_l120, I_l180, I_l200, I_l240, I_l300, I_l360, I_l361, I_l362, I_l363, I_l364, I_l365, I_l485, I_l605, I_l1999, I_l2000]
            rw [f1_hasT (by omega), f9_isWithin (by omega), f9_isWithin (by omega), if_pos qx, if_pos qy, f1_sizeIn (by omega), f1_sizeIn (by omega), sel_0 rfl, sel_1 (by omega), e1, f1_cut (by omega)]
            simp (disch := omega) only [if_true, if_false, I_add, I_sub, I_mul, I_neg, I_ofNat, Option.bind_some, kIn, I_l0, I_l1, I_l2, I_l3, I_l4, I_l5, I_l6, I_l8, I_l9, I_l10, I_l11, I_l32, I_l40, I_l43, I_l44, I_l45, I_l48, I_l49, I_l57, I_l58, I_l60, I_l61, I_l62, I_l79, I_l80, I_l100, I_l120, I_l180, I_l200, I_l240, I_l300, I_l360, I_l361, I_l362, I_l363, I_l364, I_l365, I_l485, I_l605, I_l1999, I_l2000, I_eq, I_lt, if_neg]
          · unfold pX10_part
            rw [f10_noGroup (by omega) rm.1, if_pos q]
            simp only [if_true, if_false, I_add, I_sub, I_mul, I_neg, I_ofNat, Option.bind_some, kIn, I_l0, I_l1, I_l2, I_l3, I_l4, I_l5, I_l6, I_l8, I_l9, I_l10, I_l11, I_l32, I_l40, I_l43, I_l44, I_l45, I_l48, I_l49, I_l57, I_l58, I_l60, I_l61, I_l62, I_l79, I_l80, I_l100, I_l120, I_l180, I_l200, I_l240, I_l300, I_l360, I_l361, I_l362, I_l363, I_l364, I_l365, I_l485, I_l605, I_l1999, I_l2000]
            rw [f10_in (by omega), f10_in (by omega), if_pos qx, if_pos qy, f10_has (g := g) (by omega) rm, f10_has (g := g) (by omega) rm, sel_0 rfl, sel_1 (by omega), e2, f10_groups, rm.1]
            simp (disch := omega) only [if_true, if_false, I_add, I_sub, I_mul, I_neg, I_ofNat, Option.bind_some, kIn, I_l0, I_l1, I_l2, I_l3, I_l4, I_l5, I_l6, I_l8, I_l9, I_l10, I_l11, I_l32, I_l40, I_l43, I_l44, I_l45, I_l48, I_l49, I_l57, I_l58, I_l60, I_l61, I_l62, I_l79, I_l80, I_l100, I_l120, I_l180, I_l200, I_l240, I_l300, I_l360, I_l361, I_l362, I_l363, I_l364, I_l365, I_l485, I_l605, I_l1999, I_l2000, I_eq, I_lt, if_neg, if_true]
            exact u3
          · have hc : ∀ i, 0 ≤ i → i < g + 1 → up (up (opn L 120 a g) a x) (a + 1) (L a - x) i = ctf L a x i ∧ up (up (opn R 120 a g) a y) (a + 1) (R a - y) i = ctf R a y i := fun i u v => ⟨ctf_class (by omega) ⟨u, v⟩, ctf_class (by omega) ⟨u, v⟩⟩
            exact ⟨c0, l0, o0, n0, c1, l1, o1, n1, _, _, _, rfl, k0, k1, (okM_ctf kM ⟨k0.1.2, k1.1.2⟩ q (by omega) (by omega) (by omega) (by omega)).val hc, r0.lo (by omega) k0.1.2 u2, r1.lo (by omega) k1.1.2 u2, u1.val hc⟩
      · refine ⟨I (-2), cz L, cz R, I g, k, 0, s0, s1, s2, s3, s4, V, W, ?_, ?_, hS, Or.inl ⟨rfl, hH⟩⟩
        · unfold pX9_part
          simp only [if_true, if_false, I_add, I_sub, I_mul, I_neg, I_ofNat, Option.bind_some, kIn, I_l0, I_l1, I_l2, I_l3, I_l4, I_l5, I_l6, I_l8, I_l9, I_l10, I_l11, I_l32, I_l40, I_l43, I_l44, I_l45, I_l48, I_l49, I_l57, I_l58, I_l60, I_l61, I_l62, I_l79, I_l80, I_l100, I_l120, I_l180, I_l200, I_l240, I_l300, I_l360, I_l361, I_l362, I_l363, I_l364, I_l365, I_l485, I_l605, I_l1999, I_l2000]
          rw [f1_hasT (by omega), f9_isWithin (by omega), f9_isWithin (by omega), if_pos qx, if_neg qy]
          simp (disch := omega) only [if_true, if_false, I_add, I_sub, I_mul, I_neg, I_ofNat, Option.bind_some, kIn, I_l0, I_l1, I_l2, I_l3, I_l4, I_l5, I_l6, I_l8, I_l9, I_l10, I_l11, I_l32, I_l40, I_l43, I_l44, I_l45, I_l48, I_l49, I_l57, I_l58, I_l60, I_l61, I_l62, I_l79, I_l80, I_l100, I_l120, I_l180, I_l200, I_l240, I_l300, I_l360, I_l361, I_l362, I_l363, I_l364, I_l365, I_l485, I_l605, I_l1999, I_l2000, I_eq, if_neg, if_true]
        · unfold pX10_part
          rw [f10_noGroup (by omega) rm.1, if_pos q]
          simp only [if_true, if_false, I_add, I_sub, I_mul, I_neg, I_ofNat, Option.bind_some, kIn, I_l0, I_l1, I_l2, I_l3, I_l4, I_l5, I_l6, I_l8, I_l9, I_l10, I_l11, I_l32, I_l40, I_l43, I_l44, I_l45, I_l48, I_l49, I_l57, I_l58, I_l60, I_l61, I_l62, I_l79, I_l80, I_l100, I_l120, I_l180, I_l200, I_l240, I_l300, I_l360, I_l361, I_l362, I_l363, I_l364, I_l365, I_l485, I_l605, I_l1999, I_l2000]
          rw [f10_in (by omega), f10_in (by omega), if_pos qx, if_neg qy]
          simp (disch := omega) only [if_true, if_false, I_add, I_sub, I_mul, I_neg, I_ofNat, Option.bind_some, kIn, I_l0, I_l1, I_l2, I_l3, I_l4, I_l5, I_l6, I_l8, I_l9, I_l10, I_l11, I_l32, I_l40, I_l43, I_l44, I_l45, I_l48, I_l49, I_l57, I_l58, I_l60, I_l61, I_l62, I_l79, I_l80, I_l100, I_l120, I_l180, I_l200, I_l240, I_l300, I_l360, I_l361, I_l362, I_l363, I_l364, I_l365, I_l485, I_l605, I_l1999, I_l2000, I_eq, if_neg, if_true]
    · refine ⟨I (-2), cz L, cz R, I g, k, 0, s0, s1, s2, s3, s4, V, W, ?_, ?_, hS, Or.inl ⟨rfl, hH⟩⟩
      · unfold pX9_part
        simp only [if_true, if_false, I_add, I_sub, I_mul, I_neg, I_ofNat, Option.bind_some, kIn, I_l0, I_l1, I_l2, I_l3, I_l4, I_l5, I_l6, I_l8, I_l9, I_l10, I_l11, I_l32, I_l40, I_l43, I_l44, I_l45, I_l48, I_l49, I_l57, I_l58, I_l60, I_l61, I_l62, I_l79, I_l80, I_l100, I_l120, I_l180, I_l200, I_l240, I_l300, I_l360, I_l361, I_l362, I_l363, I_l364, I_l365, I_l485, I_l605, I_l1999, I_l2000]
        rw [f1_hasT (by omega), f9_isWithin (by omega), if_neg qx]
        simp (disch := omega) only [if_true, if_false, I_add, I_sub, I_mul, I_neg, I_ofNat, Option.bind_some, kIn, I_l0, I_l1, I_l2, I_l3, I_l4, I_l5, I_l6, I_l8, I_l9, I_l10, I_l11, I_l32, I_l40, I_l43, I_l44, I_l45, I_l48, I_l49, I_l57, I_l58, I_l60, I_l61, I_l62, I_l79, I_l80, I_l100, I_l120, I_l180, I_l200, I_l240, I_l300, I_l360, I_l361, I_l362, I_l363, I_l364, I_l365, I_l485, I_l605, I_l1999, I_l2000, I_eq, if_neg, if_true]
      · unfold pX10_part
        rw [f10_noGroup (by omega) rm.1, if_pos q]
        simp only [if_true, if_false, I_add, I_sub, I_mul, I_neg, I_ofNat, Option.bind_some, kIn, I_l0, I_l1, I_l2, I_l3, I_l4, I_l5, I_l6, I_l8, I_l9, I_l10, I_l11, I_l32, I_l40, I_l43, I_l44, I_l45, I_l48, I_l49, I_l57, I_l58, I_l60, I_l61, I_l62, I_l79, I_l80, I_l100, I_l120, I_l180, I_l200, I_l240, I_l300, I_l360, I_l361, I_l362, I_l363, I_l364, I_l365, I_l485, I_l605, I_l1999, I_l2000]
        rw [f10_in (by omega), if_neg qx]
        simp (disch := omega) only [if_true, if_false, I_add, I_sub, I_mul, I_neg, I_ofNat, Option.bind_some, kIn, I_l0, I_l1, I_l2, I_l3, I_l4, I_l5, I_l6, I_l8, I_l9, I_l10, I_l11, I_l32, I_l40, I_l43, I_l44, I_l45, I_l48, I_l49, I_l57, I_l58, I_l60, I_l61, I_l62, I_l79, I_l80, I_l100, I_l120, I_l180, I_l200, I_l240, I_l300, I_l360, I_l361, I_l362, I_l363, I_l364, I_l365, I_l485, I_l605, I_l1999, I_l2000, I_eq, if_neg, if_true]
  · refine ⟨I (-1), cz L, cz R, I g, k, 0, s0, s1, s2, s3, s4, V, W, ?_, ?_, hS, Or.inl ⟨rfl, hH⟩⟩
    · unfold pX9_part
      simp only [if_true, if_false, I_add, I_sub, I_mul, I_neg, I_ofNat, Option.bind_some, kIn, I_l0, I_l1, I_l2, I_l3, I_l4, I_l5, I_l6, I_l8, I_l9, I_l10, I_l11, I_l32, I_l40, I_l43, I_l44, I_l45, I_l48, I_l49, I_l57, I_l58, I_l60, I_l61, I_l62, I_l79, I_l80, I_l100, I_l120, I_l180, I_l200, I_l240, I_l300, I_l360, I_l361, I_l362, I_l363, I_l364, I_l365, I_l485, I_l605, I_l1999, I_l2000]
      rw [f1_hasF (by omega)]
      simp (disch := omega) only [if_true, if_false, I_add, I_sub, I_mul, I_neg, I_ofNat, Option.bind_some, kIn, I_l0, I_l1, I_l2, I_l3, I_l4, I_l5, I_l6, I_l8, I_l9, I_l10, I_l11, I_l32, I_l40, I_l43, I_l44, I_l45, I_l48, I_l49, I_l57, I_l58, I_l60, I_l61, I_l62, I_l79, I_l80, I_l100, I_l120, I_l180, I_l200, I_l240, I_l300, I_l360, I_l361, I_l362, I_l363, I_l364, I_l365, I_l485, I_l605, I_l1999, I_l2000, I_eq, if_pos]
    · unfold pX10_part
      rw [f10_noGroup (by omega) rm.1, if_neg q]
      simp (disch := omega) only [if_true, if_false, I_add, I_sub, I_mul, I_neg, I_ofNat, Option.bind_some, kIn, I_l0, I_l1, I_l2, I_l3, I_l4, I_l5, I_l6, I_l8, I_l9, I_l10, I_l11, I_l32, I_l40, I_l43, I_l44, I_l45, I_l48, I_l49, I_l57, I_l58, I_l60, I_l61, I_l62, I_l79, I_l80, I_l100, I_l120, I_l180, I_l200, I_l240, I_l300, I_l360, I_l361, I_l362, I_l363, I_l364, I_l365, I_l485, I_l605, I_l1999, I_l2000, I_eq, if_neg]
theorem mx_bd (a b : Int) : a ≤ mx a b ∧ b ≤ mx a b ∧ (mx a b = a ∨ mx a b = b) := by
  unfold mx
  split <;> omega
def mn (a b : Int) : Int := if b ≤ a then b else a
theorem mn_bd (a b : Int) : mn a b ≤ a ∧ mn a b ≤ b ∧ (mn a b = a ∨ mn a b = b) := by
  unfold mn
  split <;> omega
theorem f10_pairAll {n0 n1 k2 kk : Int} {V2 : Int → Int} (b0 : 0 ≤ n0 ∧ n0 ≤ 60) (b1 : 0 ≤ n1 ∧ n1 ≤ 60) (w0 : W 360 = n0) (w1 : W 361 = n1) (e2 : pX10_record (cz W) (cz V) (I kk) = some (cz V2, I k2)) : ∃ W2 : Int → Int, rP W2 W (mx n0 n1) (p01 n0) (p01 n1) ∧ pX10_pairAll (cz W) (cz V) (I kk) = some (I (mx n0 n1), cz W2, cz V2, I k2) := by
  have hm := mn_bd n0 n1
  have rp : rP (up W 364 0) W 0 (p01 n0) (p01 n1) := ⟨up_at rfl, fun j x y => by omega, fun i x => up_ne (by omega)⟩
  obtain ⟨W2, x1, x2⟩ := f10_pair42 (V := V2) (kk := k2) b0 b1 w0 w1 (mn := mn n0 n1) (by omega) 4000 (up W 364 0) 0 (by omega) (by omega) (by omega) rp
  refine ⟨W2, x1, ?_⟩
  have z0 : up W 364 0 (360 + 0) = n0 := by rw [up_ne (by omega)]; exact w0
  have z1 : up W 364 0 (360 + 1) = n1 := by rw [up_ne (by omega)]; exact w1
  have s0 := f10_size (W := up W 364 0) (b := 0) (by omega)
  have s1 := f10_size (W := up W 364 0) (b := 1) (by omega)
  rw [z0] at s0
  rw [z1] at s1
  unfold pX10_pairAll pX10_pairAll_j39
  rw [e2]
  simp (disch := omega) only [if_true, if_false, I_add, I_sub, I_mul, I_neg, I_ofNat, Option.bind_some, kIn, I_l0, I_l1, I_l2, I_l3, I_l4, I_l5, I_l6, I_l8, I_l9, I_l10, I_l11, I_l32, I_l40, I_l43, I_l44, I_l45, I_l48, I_l49, I_l57, I_l58, I_l60, I_l61, I_l62, I_l79, I_l80, I_l100, I_l120, I_l180, I_l200, I_l240, I_l300, I_l360, I_l361, I_l362, I_l363, I_l364, I_l365, I_l485, I_l605, I_l1999, I_l2000, I_le, I_lt, I_eq, I_toInt, cz_at, cz_up, if_pos, if_neg, s0, s1]
  unfold mn at x2
  by_cases z : n1 ≤ n0
  · rw [if_pos z] at x2
    rw [if_pos z, x2]
  · rw [if_neg z] at x2
    rw [if_neg z, x2]
theorem f9_pairAll {n0 n1 k2 : Int} {r : Nat} {t0 t1 t2 t3 t4 : vST} {L R : Int → Int} {h0 : Int32} {g : Int32} {c0 l0 o0 c1 l1 o1 : Nat → Int32} (b0 : 0 ≤ n0 ∧ n0 ≤ 60) (b1 : 0 ≤ n1 ∧ n1 ≤ 60) (e1 : pX2_record h0 s0 s1 s2 s3 s4 c0 l0 o0 (I n0) c1 l1 o1 (I n1) (cz L) (cz R) g = some (I k2, r, t0, t1, t2, t3, t4)) : ∃ A2 B2 : Int → Int, (∀ j, 0 ≤ j → j < mx n0 n1 → A2 j = p01 n0 j ∧ B2 j = p01 n1 j) ∧ pX9_pairAll c0 l0 o0 (I n0) c1 l1 o1 (I n1) (cz L) (cz R) g h0 s0 s1 s2 s3 s4 = some (I (mx n0 n1), cz A2, cz B2, I (mx n0 n1), I k2, r, t0, t1, t2, t3, t4) := by
  have hm := mx_bd n0 n1
  obtain ⟨A2, B2, u1, u2⟩ := f9_pair47 (n0 := n0) (n1 := n1) b0 b1 (a0 := c0) (a1 := l0) (a2 := o0) (b0 := c1) (b1 := l1) (b2 := o1) (hk := I k2) (r := r) (t0 := t0) (t1 := t1) (t2 := t2) (t3 := t3) (t4 := t4) 4000 L R 0 (by omega) (by omega) (by omega) (fun j x y => by omega)
  refine ⟨A2, B2, u1, ?_⟩
  unfold pX9_pairAll
  rw [e1]
  simp only [if_true, if_false, I_add, I_sub, I_mul, I_neg, I_ofNat, Option.bind_some, kIn, I_l0, I_l1, I_l2, I_l3, I_l4, I_l5, I_l6, I_l8, I_l9, I_l10, I_l11, I_l32, I_l40, I_l43, I_l44, I_l45, I_l48, I_l49, I_l57, I_l58, I_l60, I_l61, I_l62, I_l79, I_l80, I_l100, I_l120, I_l180, I_l200, I_l240, I_l300, I_l360, I_l361, I_l362, I_l363, I_l364, I_l365, I_l485, I_l605, I_l1999, I_l2000]
  have ec : pX1_clear = some (I 0) := rfl
  rw [ec, I_mx (by omega)]
  simp only [if_true, if_false, I_add, I_sub, I_mul, I_neg, I_ofNat, Option.bind_some, kIn, I_l0, I_l1, I_l2, I_l3, I_l4, I_l5, I_l6, I_l8, I_l9, I_l10, I_l11, I_l32, I_l40, I_l43, I_l44, I_l45, I_l48, I_l49, I_l57, I_l58, I_l60, I_l61, I_l62, I_l79, I_l80, I_l100, I_l120, I_l180, I_l200, I_l240, I_l300, I_l360, I_l361, I_l362, I_l363, I_l364, I_l365, I_l485, I_l605, I_l1999, I_l2000]
  rw [u2]
theorem e_pairAll (hH : rH k s0 s1 s2 s3 s4 V) (hS : rS ((vL0, vL1, vL2, vL3), (vR0, vR1, vR2, vR3), (vM0, vM1, vM2)) W) : ∃ (a : Int32) (m0 m1 : Nat → Int32) (m2 : Int32) (k2 : Int) (r : Nat) (t0 t1 t2 t3 t4 : vST) (V2 W2 : Int → Int), pX9_pairAll vL0 vL1 vL2 vL3 vR0 vR1 vR2 vR3 vM0 vM1 vM2 (I k) s0 s1 s2 s3 s4 = some (a, m0, m1, m2, I k2, r, t0, t1, t2, t3, t4) ∧ pX10_pairAll (cz W) (cz V) (I k) = some (a, cz W2, cz V2, I k2) ∧ rS ((vL0, vL1, vL2, vL3), (vR0, vR1, vR2, vR3), (m0, m1, m2)) W2 ∧ rHr r k2 t0 t1 t2 t3 t4 V2 := by
  obtain ⟨k2, r, t0, t1, t2, t3, t4, V2, hh, e1, e2⟩ := e_record hH hS
  obtain ⟨c0, l0, o0, n0, c1, l1, o1, n1, L, R, g, e, k0, k1, kM, r0, r1, rm⟩ := id hS
  simp only [Prod.mk.injEq] at e
  obtain ⟨⟨rfl, rfl, rfl, rfl⟩, ⟨rfl, rfl, rfl, rfl⟩, rfl, rfl, rfl⟩ := e
  have b0 := k0.1
  have b1 := k1.1
  obtain ⟨A2, B2, u1, u2⟩ := f9_pairAll b0 b1 e1
  obtain ⟨W2, x1, x2⟩ := f10_pairAll b0 b1 r0.1 r1.1 e2
  exact ⟨I (mx n0 n1), cz A2, cz B2, I (mx n0 n1), k2, r, t0, t1, t2, t3, t4, V2, W2, u2, x2, ⟨c0, l0, o0, n0, c1, l1, o1, n1, _, _, _, rfl, k0, k1, (okM_p01 b0 b1).val u1, r0.lo (by omega) b0.2 x1.2.2, r1.lo (by omega) b1.2 x1.2.2, x1.m.val u1⟩, hh⟩
end ACT2
