-- undo, exchange
theorem f10_swap {X : Int → Int} {i j : Int} (h : (0 ≤ i ∧ i < 605) ∧ 0 ≤ j ∧ j < 605) : pX10_swap (cz X) (I i) (I j) = some (cz (up (up X i (X j)) j (X i))) := by
  unfold pX10_swap
  simp (disch := omega) only [if_true, if_false, I_add, I_sub, I_mul, I_neg, I_ofNat, Option.bind_some, kIn, I_l0, I_l1, I_l2, I_l3, I_l4, I_l5, I_l6, I_l8, I_l9, I_l10, I_l11, I_l32, I_l40, I_l43, I_l44, I_l45, I_l48, I_l49, I_l57, I_l58, I_l60, I_l61, I_l62, I_l79, I_l80, I_l100, I_l120, I_l180, I_l200, I_l240, I_l300, I_l360, I_l361, I_l362, I_l363, I_l364, I_l365, I_l485, I_l605, I_l1999, I_l2000, I_le, I_lt, I_eq, I_toInt, cz_at, cz_up, if_pos, if_neg]
-- rows exchanged up to a place
def rX (X W : Int → Int) (k : Int) : Prop := (∀ i, 0 ≤ i → i < k → X i = W (60 + i) ∧ X (60 + i) = W i ∧ X (120 + i) = W (180 + i) ∧ X (180 + i) = W (120 + i) ∧ X (240 + i) = W (300 + i) ∧ X (300 + i) = W (240 + i)) ∧ (∀ i, k ≤ i → i < 60 → X i = W i ∧ X (60 + i) = W (60 + i) ∧ X (120 + i) = W (120 + i) ∧ X (180 + i) = W (180 + i) ∧ X (240 + i) = W (240 + i) ∧ X (300 + i) = W (300 + i)) ∧ ∀ i, 360 ≤ i → X i = W i
-- groups exchanged up to a place
def rG (X Y : Int → Int) (g k : Int) (L R : Int → Int) : Prop := X 364 = g ∧ (∀ i, 0 ≤ i → i < k → X (365 + i) = R i ∧ X (485 + i) = L i) ∧ (∀ i, k ≤ i → i < g → X (365 + i) = L i ∧ X (485 + i) = R i) ∧ ∀ i, i < 364 → X i = Y i
theorem f10_exch78 {Y V L R : Int → Int} {g kk : Int} (hg : 0 ≤ g ∧ g ≤ 120) (hb : ∀ i, 0 ≤ i → i < g → (0 ≤ L i ∧ L i ≤ 1000) ∧ 0 ≤ R i ∧ R i ≤ 1000) : ∀ (m : Nat) (X : Int → Int) (s k : Int), 0 ≤ k → k ≤ g → g - k < m → rG X Y g k L R → s = alk R L k → ∃ X2 : Int → Int, rG X2 Y g g L R ∧ pX10_exchange_L78 m (cz X) (cz V) (I kk) (I s) (I k) = some (I (alk R L g), cz X2, cz V, I kk) := by
  intro m
  induction m with
  | zero => intro X s k a b c; omega
  | succ m ih =>
    intro X s k a b c r hs
    obtain ⟨p1, p2, p3, p4⟩ := id r
    by_cases q : k = g
    · subst q
      refine ⟨X, r, ?_⟩
      show pX10_exchange_bL78 _ _ _ _ _ _ = _
      unfold pX10_exchange_bL78
      rw [f10_groups, p1]
      simp (disch := omega) only [if_true, if_false, I_add, I_sub, I_mul, I_neg, I_ofNat, Option.bind_some, kIn, I_l0, I_l1, I_l2, I_l3, I_l4, I_l5, I_l6, I_l8, I_l9, I_l10, I_l11, I_l32, I_l40, I_l43, I_l44, I_l45, I_l48, I_l49, I_l57, I_l58, I_l60, I_l61, I_l62, I_l79, I_l80, I_l100, I_l120, I_l180, I_l200, I_l240, I_l300, I_l360, I_l361, I_l362, I_l363, I_l364, I_l365, I_l485, I_l605, I_l1999, I_l2000, I_le, if_pos]
      rw [hs]
    · have h3 := p3 k (by omega) (by omega)
      have h4 := hb k a (by omega)
      have e : alk R L (k + 1) = alk R L k + (if R k = L k then 1 else 0) := Sm_s a
      have r2 : rG (up (up X (365 + k) (R k)) (485 + k) (L k)) Y g (k + 1) L R := by
        refine ⟨by rw [up_ne (by omega), up_ne (by omega)]; exact p1, fun i x y => ?_, fun i x y => ?_, fun i x => by rw [up_ne (by omega), up_ne (by omega)]; exact p4 i x⟩
        · by_cases z : i = k
          · rw [z, up_ne (by omega), up_at rfl, up_at rfl]; exact ⟨rfl, rfl⟩
          · rw [up_ne (by omega), up_ne (by omega), up_ne (by omega), up_ne (by omega)]
            exact p2 i x (by omega)
        · rw [up_ne (by omega), up_ne (by omega), up_ne (by omega), up_ne (by omega)]
          exact p3 i (by omega) y
      have hh : ∀ b, 0 ≤ b → b ≤ 1 → pX10_has (cz (up (up X (365 + k) (R k)) (485 + k) (L k))) (I k) (I b) = some (I (if b = 0 then R k else L k)) := by
        intro b b0 b1
        have hz := r2.2.1 k a (by omega)
        unfold pX10_has
        simp (disch := omega) only [if_true, if_false, I_add, I_sub, I_mul, I_neg, I_ofNat, Option.bind_some, kIn, I_l0, I_l1, I_l2, I_l3, I_l4, I_l5, I_l6, I_l8, I_l9, I_l10, I_l11, I_l32, I_l40, I_l43, I_l44, I_l45, I_l48, I_l49, I_l57, I_l58, I_l60, I_l61, I_l62, I_l79, I_l80, I_l100, I_l120, I_l180, I_l200, I_l240, I_l300, I_l360, I_l361, I_l362, I_l363, I_l364, I_l365, I_l485, I_l605, I_l1999, I_l2000, I_le, I_lt, I_eq, I_toInt, cz_at, cz_up, if_pos, if_neg]
        split
        · rw [hz.1]
        · rw [hz.2]
      by_cases q2 : R k = L k
      · obtain ⟨X2, t1, t2⟩ := ih _ (s + 1) (k + 1) (by omega) (by omega) (by omega) r2 (by rw [if_pos q2] at e; omega)
        refine ⟨X2, t1, ?_⟩
        show pX10_exchange_bL78 _ _ _ _ _ _ = _
        unfold pX10_exchange_bL78 pX10_exchange_j121
        rw [f10_groups, p1]
        simp (disch := omega) only [if_true, if_false, I_add, I_sub, I_mul, I_neg, I_ofNat, Option.bind_some, kIn, I_l0, I_l1, I_l2, I_l3, I_l4, I_l5, I_l6, I_l8, I_l9, I_l10, I_l11, I_l32, I_l40, I_l43, I_l44, I_l45, I_l48, I_l49, I_l57, I_l58, I_l60, I_l61, I_l62, I_l79, I_l80, I_l100, I_l120, I_l180, I_l200, I_l240, I_l300, I_l360, I_l361, I_l362, I_l363, I_l364, I_l365, I_l485, I_l605, I_l1999, I_l2000, I_le, if_neg]
        rw [f10_swap (by omega), h3.1, h3.2]
        simp only [if_true, if_false, I_add, I_sub, I_mul, I_neg, I_ofNat, Option.bind_some, kIn, I_l0, I_l1, I_l2, I_l3, I_l4, I_l5, I_l6, I_l8, I_l9, I_l10, I_l11, I_l32, I_l40, I_l43, I_l44, I_l45, I_l48, I_l49, I_l57, I_l58, I_l60, I_l61, I_l62, I_l79, I_l80, I_l100, I_l120, I_l180, I_l200, I_l240, I_l300, I_l360, I_l361, I_l362, I_l363, I_l364, I_l365, I_l485, I_l605, I_l1999, I_l2000]
        rw [hh 0 (by omega) (by omega), hh 1 (by omega) (by omega), if_pos rfl, if_neg (by omega)]
        simp (disch := omega) only [if_true, if_false, I_add, I_sub, I_mul, I_neg, I_ofNat, Option.bind_some, kIn, I_l0, I_l1, I_l2, I_l3, I_l4, I_l5, I_l6, I_l8, I_l9, I_l10, I_l11, I_l32, I_l40, I_l43, I_l44, I_l45, I_l48, I_l49, I_l57, I_l58, I_l60, I_l61, I_l62, I_l79, I_l80, I_l100, I_l120, I_l180, I_l200, I_l240, I_l300, I_l360, I_l361, I_l362, I_l363, I_l364, I_l365, I_l485, I_l605, I_l1999, I_l2000, I_eq, if_pos]
        rw [t2]
      · obtain ⟨X2, t1, t2⟩ := ih _ (s + 0) (k + 1) (by omega) (by omega) (by omega) r2 (by rw [if_neg q2] at e; omega)
        refine ⟨X2, t1, ?_⟩
        show pX10_exchange_bL78 _ _ _ _ _ _ = _
        unfold pX10_exchange_bL78 pX10_exchange_j121
        rw [f10_groups, p1]
        simp (disch := omega) only [if_true, if_false, I_add, I_sub, I_mul, I_neg, I_ofNat, Option.bind_some, kIn, I_l0, I_l1, I_l2, I_l3, I_l4, I_l5, I_l6, I_l8, I_l9, I_l10, I_l11, I_l32, I_l40, I_l43, I_l44, I_l45, I_l48, I_l49, I_l57, I_l58, I_l60, I_l61, I_l62, I_l79, I_l80, I_l100, I_l120, I_l180, I_l200, I_l240, I_l300, I_l360, I_l361, I_l362, I_l363, I_l364, I_l365, I_l485, I_l605, I_l1999, I_l2000, I_le, if_neg]
        rw [f10_swap (by omega), h3.1, h3.2]
        simp only [if_true, if_false, I_add, I_sub, I_mul, I_neg, I_ofNat, Option.bind_some, kIn, I_l0, I_l1, I_l2, I_l3, I_l4, I_l5, I_l6, I_l8, I_l9, I_l10, I_l11, I_l32, I_l40, I_l43, I_l44, I_l45, I_l48, I_l49, I_l57, I_l58, I_l60, I_l61, I_l62, I_l79, I_l80, I_l100, I_l120, I_l180, I_l200, I_l240, I_l300, I_l360, I_l361, I_l362, I_l363, I_l364, I_l365, I_l485, I_l605, I_l1999, I_l2000]
        rw [hh 0 (by omega) (by omega), hh 1 (by omega) (by omega), if_pos rfl, if_neg (by omega)]
        simp (disch := omega) only [if_true, if_false, I_add, I_sub, I_mul, I_neg, I_ofNat, Option.bind_some, kIn, I_l0, I_l1, I_l2, I_l3, I_l4, I_l5, I_l6, I_l8, I_l9, I_l10, I_l11, I_l32, I_l40, I_l43, I_l44, I_l45, I_l48, I_l49, I_l57, I_l58, I_l60, I_l61, I_l62, I_l79, I_l80, I_l100, I_l120, I_l180, I_l200, I_l240, I_l300, I_l360, I_l361, I_l362, I_l363, I_l364, I_l365, I_l485, I_l605, I_l1999, I_l2000, I_eq, if_neg]
        rw [t2]
def ex4 (Z : Int → Int) : Int → Int := up (up (up (up Z 360 (Z 361)) 361 (Z 360)) 362 (Z 363)) 363 (Z 362)
theorem ex4_hi {Z : Int → Int} {i : Int} (h : 364 ≤ i) : ex4 Z i = Z i := by
  unfold ex4
  rw [up_ne (by omega), up_ne (by omega), up_ne (by omega), up_ne (by omega)]
theorem ex4_lo {Z : Int → Int} {i : Int} (h : i < 360) : ex4 Z i = Z i := by
  unfold ex4
  rw [up_ne (by omega), up_ne (by omega), up_ne (by omega), up_ne (by omega)]
theorem ex4_s {Z : Int → Int} : ex4 Z 360 = Z 361 ∧ ex4 Z 361 = Z 360 ∧ ex4 Z 362 = Z 363 ∧ ex4 Z 363 = Z 362 := by
  unfold ex4
  refine ⟨?_, ?_, ?_, ?_⟩
  · rw [up_ne (by omega), up_ne (by omega), up_ne (by omega), up_at (by omega)]
  · rw [up_ne (by omega), up_ne (by omega), up_at (by omega)]
  · rw [up_ne (by omega), up_at (by omega)]
  · rw [up_at (by omega)]
theorem f10_sw2 {Z : Int → Int} : pX10_swap (cz (up (up Z 360 (Z 361)) 361 (Z 360))) (I 362) (I 363) = some (cz (ex4 Z)) := by
  rw [f10_swap (by omega), up_ne (j := 363) (by omega), up_ne (j := 363) (by omega), up_ne (j := 362) (by omega), up_ne (j := 362) (by omega)]
  unfold ex4
  exact rfl
theorem obind {α β : Type} {x : Option α} {a : α} {f : α → Option β} {K : Option β} (h : x = some a) (h2 : f a = K) : x.bind f = K := by
  subst h
  exact h2
theorem f10_ex4 {Z V : Int → Int} {kk : Int} {K : Option (Int32 × (Nat → Int32) × (Nat → Int32) × Int32)} (h : pX10_exchange_L78 4000 (cz (ex4 Z)) (cz V) (I kk) (I 0) (I 0) = K) (F : (Nat → Int32) → (Nat → Int32) → Int32 → Int32 → Option (Int32 × (Nat → Int32) × (Nat → Int32) × Int32)) : pX10_exchange_bL6 F (cz Z) (cz V) (I kk) (I 60) = K := by
  unfold pX10_exchange_bL6
  simp (disch := omega) only [if_true, if_false, I_add, I_sub, I_mul, I_neg, I_ofNat, Option.bind_some, kIn, I_l0, I_l1, I_l2, I_l3, I_l4, I_l5, I_l6, I_l8, I_l9, I_l10, I_l11, I_l32, I_l40, I_l43, I_l44, I_l45, I_l48, I_l49, I_l57, I_l58, I_l60, I_l61, I_l62, I_l79, I_l80, I_l100, I_l120, I_l180, I_l200, I_l240, I_l300, I_l360, I_l361, I_l362, I_l363, I_l364, I_l365, I_l485, I_l605, I_l1999, I_l2000, I_le, if_pos]
  have s1 := f10_swap (X := Z) (i := 360) (j := 361) (by omega)
  exact obind s1 (obind f10_sw2 h)
def ex6 (X W : Int → Int) (k : Int) : Int → Int := up (up (up (up (up (up X k (W (60 + k))) (60 + k) (W k)) (120 + k) (W (180 + k))) (180 + k) (W (120 + k))) (240 + k) (W (300 + k))) (300 + k) (W (240 + k))
theorem ex6_ne {X W : Int → Int} {k i : Int} (h : ¬ i = k ∧ ¬ i = 60 + k ∧ ¬ i = 120 + k ∧ ¬ i = 180 + k ∧ ¬ i = 240 + k ∧ ¬ i = 300 + k) : ex6 X W k i = X i := by
  unfold ex6
  rw [up_ne h.2.2.2.2.2, up_ne h.2.2.2.2.1, up_ne h.2.2.2.1, up_ne h.2.2.1, up_ne h.2.1, up_ne h.1]
theorem ex6_at {X W : Int → Int} {k : Int} (h : 0 ≤ k ∧ k < 60) : ex6 X W k k = W (60 + k) ∧ ex6 X W k (60 + k) = W k ∧ ex6 X W k (120 + k) = W (180 + k) ∧ ex6 X W k (180 + k) = W (120 + k) ∧ ex6 X W k (240 + k) = W (300 + k) ∧ ex6 X W k (300 + k) = W (240 + k) := by
  unfold ex6
  refine ⟨?_, ?_, ?_, ?_, ?_, ?_⟩
  · rw [up_ne (by omega), up_ne (by omega), up_ne (by omega), up_ne (by omega), up_ne (by omega), up_at rfl]
  · rw [up_ne (by omega), up_ne (by omega), up_ne (by omega), up_ne (by omega), up_at rfl]
  · rw [up_ne (by omega), up_ne (by omega), up_ne (by omega), up_at rfl]
  · rw [up_ne (by omega), up_ne (by omega), up_at rfl]
  · rw [up_ne (by omega), up_at rfl]
  · rw [up_at rfl]
theorem f10_ex6 {X V W : Int → Int} {kk k : Int} (hk : 0 ≤ k ∧ k < 60) (h3 : X k = W k ∧ X (60 + k) = W (60 + k) ∧ X (120 + k) = W (120 + k) ∧ X (180 + k) = W (180 + k) ∧ X (240 + k) = W (240 + k) ∧ X (300 + k) = W (300 + k)) (F : (Nat → Int32) → (Nat → Int32) → Int32 → Int32 → Option (Int32 × (Nat → Int32) × (Nat → Int32) × Int32)) : pX10_exchange_bL6 F (cz X) (cz V) (I kk) (I k) = F (cz (ex6 X W k)) (cz V) (I kk) (I (k + 1)) := by
  unfold pX10_exchange_bL6 ex6
  obtain ⟨a1, a2, a3, a4, a5, a6⟩ := h3
  have s1 := f10_swap (X := X) (i := k) (j := 60 + k) (by omega)
  rw [a1, a2] at s1
  have s2 := f10_swap (X := up (up X k (W (60 + k))) (60 + k) (W k)) (i := 120 + k) (j := 180 + k) (by omega)
  have b3 : up (up X k (W (60 + k))) (60 + k) (W k) (120 + k) = W (120 + k) := by rw [up_ne (by omega), up_ne (by omega)]; exact a3
  have b4 : up (up X k (W (60 + k))) (60 + k) (W k) (180 + k) = W (180 + k) := by rw [up_ne (by omega), up_ne (by omega)]; exact a4
  rw [b3, b4] at s2
  have s3 := f10_swap (X := up (up (up (up X k (W (60 + k))) (60 + k) (W k)) (120 + k) (W (180 + k))) (180 + k) (W (120 + k))) (i := 240 + k) (j := 300 + k) (by omega)
  have b5 : up (up (up (up X k (W (60 + k))) (60 + k) (W k)) (120 + k) (W (180 + k))) (180 + k) (W (120 + k)) (240 + k) = W (240 + k) := by rw [up_ne (by omega), up_ne (by omega), up_ne (by omega), up_ne (by omega)]; exact a5
  have b6 : up (up (up (up X k (W (60 + k))) (60 + k) (W k)) (120 + k) (W (180 + k))) (180 + k) (W (120 + k)) (300 + k) = W (300 + k) := by rw [up_ne (by omega), up_ne (by omega), up_ne (by omega), up_ne (by omega)]; exact a6
  rw [b5, b6] at s3
  simp (disch := omega) only [if_true, if_false, I_add, I_sub, I_mul, I_neg, I_ofNat, Option.bind_some, kIn, I_l0, I_l1, I_l2, I_l3, I_l4, I_l5, I_l6, I_l8, I_l9, I_l10, I_l11, I_l32, I_l40, I_l43, I_l44, I_l45, I_l48, I_l49, I_l57, I_l58, I_l60, I_l61, I_l62, I_l79, I_l80, I_l100, I_l120, I_l180, I_l200, I_l240, I_l300, I_l360, I_l361, I_l362, I_l363, I_l364, I_l365, I_l485, I_l605, I_l1999, I_l2000, I_le, if_neg, s1, s2, s3]
theorem rX.add {X W : Int → Int} {k : Int} (hk : 0 ≤ k ∧ k < 60) (r : rX X W k) : rX (ex6 X W k) W (k + 1) := by
  obtain ⟨p1, p2, p3⟩ := r
  refine ⟨fun i x y => ?_, fun i x y => ?_, fun i x => by rw [ex6_ne (by omega)]; exact p3 i x⟩
  · by_cases z : i = k
    · rw [z]; exact ex6_at hk
    · have h5 := p1 i x (by omega)
      rw [ex6_ne (by omega), ex6_ne (by omega), ex6_ne (by omega), ex6_ne (by omega), ex6_ne (by omega), ex6_ne (by omega)]
      exact h5
  · have h5 := p2 i (by omega) y
    rw [ex6_ne (by omega), ex6_ne (by omega), ex6_ne (by omega), ex6_ne (by omega), ex6_ne (by omega), ex6_ne (by omega)]
    exact h5
theorem f10_exch6 {W V L R : Int → Int} {g kk : Int} (hg : 0 ≤ g ∧ g ≤ 120) (hb : ∀ i, 0 ≤ i → i < g → (0 ≤ L i ∧ L i ≤ 1000) ∧ 0 ≤ R i ∧ R i ≤ 1000) (rm : rM W g L R) : ∀ (m : Nat) (X : Int → Int) (k : Int), 0 ≤ k → k ≤ 60 → 60 - k < m → rX X W k → ∃ Z X2 : Int → Int, rX Z W 60 ∧ rG X2 (ex4 Z) g g L R ∧ pX10_exchange_L6 m (cz X) (cz V) (I kk) (I k) = some (I (alk R L g), cz X2, cz V, I kk) := by
  intro m
  induction m with
  | zero => intro X k a b c; omega
  | succ m ih =>
    intro X k a b c r
    by_cases q : k = 60
    · subst q
      have rg : rG (ex4 X) (ex4 X) g 0 L R := by
        refine ⟨?_, fun i x y => by omega, fun i x y => ?_, fun i _ => rfl⟩
        · rw [ex4_hi (by omega), r.2.2 _ (by omega)]; exact rm.1
        · rw [ex4_hi (by omega), ex4_hi (by omega), r.2.2 _ (by omega), r.2.2 _ (by omega)]
          exact rm.2 i x y
      obtain ⟨X2, t1, t2⟩ := f10_exch78 (V := V) (kk := kk) hg hb 4000 (ex4 X) 0 0 (by omega) (by omega) (by omega) rg rfl
      exact ⟨X, X2, r, t1, f10_ex4 t2 _⟩
    · obtain ⟨Z, X2, t0, t1, t2⟩ := ih (ex6 X W k) (k + 1) (by omega) (by omega) (by omega) (r.add (by omega))
      exact ⟨Z, X2, t0, t1, (f10_ex6 (by omega) (r.2.1 k (by omega) (by omega)) _).trans t2⟩
theorem rB_exch {W Z X2 : Int → Int} {n : Int} {c l o : Int → Int} {b : Int} (hb : 0 ≤ b ∧ b ≤ 1) (hn : n ≤ 60) (hZ : rX Z W 60) (hX : ∀ i, i < 364 → X2 i = ex4 Z i) (r : rB W (1 - b) n c l o) : rB X2 b n c l o := by
  obtain ⟨r1, r2, r3⟩ := r
  obtain ⟨z1, z2, z3⟩ := hZ
  have hs : ∀ i, i < 360 → X2 i = Z i := fun i a => by rw [hX i (by omega), ex4_lo a]
  obtain ⟨e0, e1, e2, e3⟩ := ex4_s (Z := Z)
  have hb2 : b = 0 ∨ b = 1 := by omega
  rcases hb2 with rfl | rfl
  · have r3 : ∀ i, 0 ≤ i → i < n → W (60 + i) = l i ∧ W (180 + i) = o i ∧ W (300 + i) = c i := fun i x y => r3 i x y
    have r1 : W 361 = n := r1
    have r2 : W 363 = at0 c n (n - 1) := r2
    refine ⟨?_, ?_, fun i x y => ?_⟩
    · rw [show (360 : Int) + 0 = 360 from rfl, hX _ (by omega), e0, z3 _ (by omega)]; exact r1
    · rw [show (362 : Int) + 0 = 362 from rfl, hX _ (by omega), e2, z3 _ (by omega)]; exact r2
    · have a1 := z1 i x (by omega)
      have a2 := r3 i x y
      rw [hs _ (by omega), hs _ (by omega), hs _ (by omega), show 60 * 0 + i = i by omega, show 120 + 60 * 0 + i = 120 + i by omega, show 240 + 60 * 0 + i = 240 + i by omega, a1.1, a1.2.2.1, a1.2.2.2.2.1]
      exact a2
  · have r3 : ∀ i, 0 ≤ i → i < n → W (60 * 0 + i) = l i ∧ W (120 + 60 * 0 + i) = o i ∧ W (240 + 60 * 0 + i) = c i := fun i x y => r3 i x y
    have r1 : W 360 = n := r1
    have r2 : W 362 = at0 c n (n - 1) := r2
    refine ⟨?_, ?_, fun i x y => ?_⟩
    · rw [show (360 : Int) + 1 = 361 from rfl, hX _ (by omega), e1, z3 _ (by omega)]; exact r1
    · rw [show (362 : Int) + 1 = 363 from rfl, hX _ (by omega), e3, z3 _ (by omega)]; exact r2
    · have a1 := z1 i x (by omega)
      have a2 := r3 i x y
      rw [show 60 * 0 + i = i by omega, show 120 + 60 * 0 + i = 120 + i by omega, show 240 + 60 * 0 + i = 240 + i by omega] at a2
      rw [hs _ (by omega), hs _ (by omega), hs _ (by omega), show 60 * 1 + i = 60 + i by omega, show 120 + 60 * 1 + i = 180 + i by omega, show 240 + 60 * 1 + i = 300 + i by omega, a1.2.1, a1.2.2.2.1, a1.2.2.2.2.2]
      exact a2
theorem f10_exchange {D V D2 V2 : Nat → Int32} {k k2 a : Int32} (e2 : pX10_record D V k = some (V2, k2)) (z4 : pX10_exchange_L6 4000 D V2 k2 (I 0) = some (a, D2, V2, k2)) : pX10_exchange D V k = some (a, D2, V2, k2) := by
  unfold pX10_exchange
  exact obind e2 z4
section ACT3
variable {k : Int} {s0 s1 s2 s3 s4 : vST} {V W : Int → Int} {vL0 vL1 vL2 : Nat → Int32} {vL3 : Int32} {vR0 vR1 vR2 : Nat → Int32} {vR3 : Int32} {vM0 vM1 : Nat → Int32} {vM2 : Int32}
theorem e_undo (hH : rH k s0 s1 s2 s3 s4 V) (hS : rS ((vL0, vL1, vL2, vL3), (vR0, vR1, vR2, vR3), (vM0, vM1, vM2)) W) : ∃ (a : Int32) (x0 x1 x2 : Nat → Int32) (x3 : Int32) (y0 y1 y2 : Nat → Int32) (y3 : Int32) (m0 m1 : Nat → Int32) (m2 : Int32) (k2 : Int) (W2 : Int → Int), pX9_undo vL0 vL1 vL2 vL3 vR0 vR1 vR2 vR3 vM0 vM1 vM2 (I k) s0 s1 s2 s3 s4 = some (a, x0, x1, x2, x3, y0, y1, y2, y3, m0, m1, m2, I k2) ∧ pX10_undo (cz W) (cz V) (I k) = some (a, cz W2, I k2) ∧ rS ((x0, x1, x2, x3), (y0, y1, y2, y3), (m0, m1, m2)) W2 ∧ rH k2 s0 s1 s2 s3 s4 V := by
  obtain ⟨hk, h0, h1, h2, h3, h4⟩ := id hH
  by_cases q : k = 0
  · subst q
    exact ⟨I (-5), vL0, vL1, vL2, vL3, vR0, vR1, vR2, vR3, vM0, vM1, vM2, 0, W, rfl, rfl, hS, hH⟩
  · obtain ⟨W2, u1, u2⟩ := f10_undo (V := V) (W := W) (k := k) (by omega)
    have c : k = 1 ∨ k = 2 ∨ k = 3 ∨ k = 4 ∨ k = 5 := by omega
    rcases c with rfl | rfl | rfl | rfl | rfl
    · exact ⟨I 0, s0.1.1, s0.1.2.1, s0.1.2.2.1, s0.1.2.2.2, s0.2.1.1, s0.2.1.2.1, s0.2.1.2.2.1, s0.2.1.2.2.2, s0.2.2.1, s0.2.2.2.1, s0.2.2.2.2, 0, W2, rfl, u2, (h0 (by omega)).congr (fun i x y => by rw [u1 i x y, show 605 * ((1 : Int) - 1) + i = i by omega]), ⟨by omega, fun z => by omega, fun z => by omega, fun z => by omega, fun z => by omega, fun z => by omega⟩⟩
    · exact ⟨I 1, s1.1.1, s1.1.2.1, s1.1.2.2.1, s1.1.2.2.2, s1.2.1.1, s1.2.1.2.1, s1.2.1.2.2.1, s1.2.1.2.2.2, s1.2.2.1, s1.2.2.2.1, s1.2.2.2.2, 1, W2, rfl, u2, (h1 (by omega)).congr (fun i x y => u1 i x y), ⟨by omega, fun z => h0 (by omega), fun z => by omega, fun z => by omega, fun z => by omega, fun z => by omega⟩⟩
    · exact ⟨I 2, s2.1.1, s2.1.2.1, s2.1.2.2.1, s2.1.2.2.2, s2.2.1.1, s2.2.1.2.1, s2.2.1.2.2.1, s2.2.1.2.2.2, s2.2.2.1, s2.2.2.2.1, s2.2.2.2.2, 2, W2, rfl, u2, (h2 (by omega)).congr (fun i x y => u1 i x y), ⟨by omega, fun z => h0 (by omega), fun z => h1 (by omega), fun z => by omega, fun z => by omega, fun z => by omega⟩⟩
    · exact ⟨I 3, s3.1.1, s3.1.2.1, s3.1.2.2.1, s3.1.2.2.2, s3.2.1.1, s3.2.1.2.1, s3.2.1.2.2.1, s3.2.1.2.2.2, s3.2.2.1, s3.2.2.2.1, s3.2.2.2.2, 3, W2, rfl, u2, (h3 (by omega)).congr (fun i x y => u1 i x y), ⟨by omega, fun z => h0 (by omega), fun z => h1 (by omega), fun z => h2 (by omega), fun z => by omega, fun z => by omega⟩⟩
    · exact ⟨I 4, s4.1.1, s4.1.2.1, s4.1.2.2.1, s4.1.2.2.2, s4.2.1.1, s4.2.1.2.1, s4.2.1.2.2.1, s4.2.1.2.2.2, s4.2.2.1, s4.2.2.2.1, s4.2.2.2.2, 4, W2, rfl, u2, (h4 (by omega)).congr (fun i x y => u1 i x y), ⟨by omega, fun z => h0 (by omega), fun z => h1 (by omega), fun z => h2 (by omega), fun z => h3 (by omega), fun z => by omega⟩⟩
end ACT3
section ACT3
variable {k : Int} {s0 s1 s2 s3 s4 : vST} {V W : Int → Int} {vL0 vL1 vL2 : Nat → Int32} {vL3 : Int32} {vR0 vR1 vR2 : Nat → Int32} {vR3 : Int32} {vM0 vM1 : Nat → Int32} {vM2 : Int32}
theorem e_exchange (hH : rH k s0 s1 s2 s3 s4 V) (hS : rS ((vL0, vL1, vL2, vL3), (vR0, vR1, vR2, vR3), (vM0, vM1, vM2)) W) : ∃ (a : Int32) (k2 : Int) (r : Nat) (t0 t1 t2 t3 t4 : vST) (V2 W2 : Int → Int), pX9_exchange vL0 vL1 vL2 vL3 vR0 vR1 vR2 vR3 vM0 vM1 vM2 (I k) s0 s1 s2 s3 s4 = some (a, I k2, r, t0, t1, t2, t3, t4) ∧ pX10_exchange (cz W) (cz V) (I k) = some (a, cz W2, cz V2, I k2) ∧ rS ((vR0, vR1, vR2, vR3), (vL0, vL1, vL2, vL3), (vM1, vM0, vM2)) W2 ∧ rHr r k2 t0 t1 t2 t3 t4 V2 := by
  obtain ⟨k2, r, t0, t1, t2, t3, t4, V2, hh, e1, e2⟩ := e_record hH hS
  obtain ⟨c0, l0, o0, n0, c1, l1, o1, n1, L, R, g, e, k0, k1, kM, r0, r1, rm⟩ := id hS
  simp only [Prod.mk.injEq] at e
  obtain ⟨⟨rfl, rfl, rfl, rfl⟩, ⟨rfl, rfl, rfl, rfl⟩, rfl, rfl, rfl⟩ := e
  have hg := kM.1
  have hb : ∀ i, 0 ≤ i → i < g → (0 ≤ L i ∧ L i ≤ 1000) ∧ 0 ≤ R i ∧ R i ≤ 1000 := fun i x y => by have := kM.2.1 i x y; omega
  obtain ⟨Z, X2, z1, z3, z4⟩ := f10_exch6 (V := V2) (kk := k2) hg hb rm 4000 W 0 (by omega) (by omega) (by omega) ⟨fun i x y => by omega, fun i x y => ⟨rfl, rfl, rfl, rfl, rfl, rfl⟩, fun i x => rfl⟩
  have hX : ∀ i, i < 364 → X2 i = ex4 Z i := fun i x => z3.2.2.2 i x
  refine ⟨I (alk R L g), k2, r, t0, t1, t2, t3, t4, V2, X2, ?_, f10_exchange e2 z4, ?_, hh⟩
  · unfold pX9_exchange
    rw [e1, f1_alikeTotal hg (fun i x y => (hb i x y).2) (fun i x y => (hb i x y).1)]
    simp only [Option.bind_some]
  · exact ⟨c1, l1, o1, n1, c0, l0, o0, n0, R, L, g, rfl, k1, k0, ⟨hg, fun i x y => by have := kM.2.1 i x y; omega, kM.2.2.2, kM.2.2.1⟩, rB_exch (b := 0) (by omega) k1.1.2 z1 hX r1, rB_exch (b := 1) (by omega) k0.1.2 z1 hX r0, ⟨z3.1, z3.2.1⟩⟩
end ACT3
