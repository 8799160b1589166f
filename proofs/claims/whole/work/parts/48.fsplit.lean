-- verses split and joined: rows with a value put in, or one taken out
def ins (F : Int → Int) (a y : Int) : Int → Int := fun i => if i ≤ a then F i else if i = a + 1 then y else F (i - 1)
def rmv (F : Int → Int) (a : Int) : Int → Int := fun i => if i ≤ a then F i else F (i + 1)
theorem ins_lo {F : Int → Int} {a y i : Int} (h : i ≤ a) : ins F a y i = F i := if_pos h
theorem ins_at {F : Int → Int} {a y i : Int} (h : i = a + 1) : ins F a y i = y := by unfold ins; rw [if_neg (by omega), if_pos h]
theorem ins_hi {F : Int → Int} {a y i : Int} (h : a + 1 < i) : ins F a y i = F (i - 1) := by unfold ins; rw [if_neg (by omega), if_neg (by omega)]
theorem rmv_lo {F : Int → Int} {a i : Int} (h : i ≤ a) : rmv F a i = F i := if_pos h
theorem rmv_hi {F : Int → Int} {a i : Int} (h : a < i) : rmv F a i = F (i + 1) := if_neg (by omega)
theorem ins_class {F : Int → Int} {a y n i : Int} (h : 0 ≤ a ∧ a < n ∧ n < 60) (hi : 0 ≤ i ∧ i < n + 1) : up (opn F 60 (a + 1) n) (a + 1) y i = ins F a y i := by
  by_cases z : i = a + 1
  · rw [up_at z, ins_at z]
  · rw [up_ne z]
    unfold opn cpy
    rw [if_pos (by omega)]
    by_cases z2 : i ≤ a
    · rw [ins_lo z2]; exact if_neg (by omega)
    · rw [ins_hi (by omega)]
      show (if a + 1 + 1 ≤ i ∧ i < a + 1 + 1 + (n - (a + 1)) then F (a + 1 + (i - (a + 1 + 1))) else F i) = F (i - 1)
      rw [if_pos (by omega), show a + 1 + (i - (a + 1 + 1)) = i - 1 by omega]
theorem rmv_class {F : Int → Int} {a n i : Int} (h : 0 ≤ a ∧ a + 1 < n ∧ n ≤ 60) (hi : 0 ≤ i ∧ i < n - 1) : cls F 60 (a + 1) 1 n i = rmv F a i := by
  unfold cls cpy
  rw [if_pos (by omega)]
  by_cases z : i ≤ a
  · rw [rmv_lo z]; exact if_neg (by omega)
  · rw [rmv_hi (by omega)]
    show (if a + 1 ≤ i ∧ i < a + 1 + (n - (a + 1) - 1) then F (a + 1 + 1 + (i - (a + 1))) else F i) = F (i + 1)
    rw [if_pos (by omega), show a + 1 + 1 + (i - (a + 1)) = i + 1 by omega]
def cpv (X : Int → Int) (i j : Int) : Int → Int := up (up (up X j (X i)) (120 + j) (X (120 + i))) (240 + j) (X (240 + i))
theorem f10_copyVerse {X : Int → Int} {i j : Int} (h : (0 ≤ i ∧ i < 120) ∧ 0 ≤ j ∧ j < 120) : pX10_copyVerse (cz X) (I i) (I j) = some (cz (cpv X i j)) := by
  unfold pX10_copyVerse cpv
  have e1 : up X j (X i) (120 + i) = X (120 + i) := by rw [up_ne (by omega)]
  have e2 : up (up X j (X i)) (120 + j) (X (120 + i)) (240 + i) = X (240 + i) := by rw [up_ne (by omega), up_ne (by omega)]
  simp (disch := omega) only [if_true, if_false, I_add, I_sub, I_mul, I_neg, I_ofNat, Option.bind_some, kIn, I_l0, I_l1, I_l2, I_l3, I_l4, I_l5, I_l6, I_l8, I_l9, I_l10, I_l11, I_l32, I_l40, I_l43, I_l44, I_l45, I_l48, I_l49, I_l57, I_l58, I_l60, I_l61, I_l62, I_l79, I_l80, I_l100, I_l120, I_l180, I_l200, I_l240, I_l300, I_l360, I_l361, I_l362, I_l363, I_l364, I_l365, I_l485, I_l605, I_l1999, I_l2000, I_le, I_lt, I_eq, I_toInt, cz_at, cz_up, if_pos, if_neg, e1, e2]
theorem cpv_at {X : Int → Int} {i j : Int} (h : (0 ≤ i ∧ i < 120) ∧ 0 ≤ j ∧ j < 120) : cpv X i j j = X i ∧ cpv X i j (120 + j) = X (120 + i) ∧ cpv X i j (240 + j) = X (240 + i) := by
  unfold cpv
  refine ⟨?_, ?_, ?_⟩
  · rw [up_ne (by omega), up_ne (by omega), up_at rfl]
  · rw [up_ne (by omega), up_at rfl]
  · rw [up_at rfl]
theorem cpv_ne {X : Int → Int} {i j m : Int} (h : ¬ m = j ∧ ¬ m = 120 + j ∧ ¬ m = 240 + j) : cpv X i j m = X m := by
  unfold cpv
  rw [up_ne h.2.2, up_ne h.2.1, up_ne h.1]
-- what the row says of the verses of book b, all else as in W
def rV (X W : Int → Int) (b n : Int) (c l o : Int → Int) : Prop := (∀ i, 0 ≤ i → i < n → X (60 * b + i) = l i ∧ X (120 + 60 * b + i) = o i ∧ X (240 + 60 * b + i) = c i) ∧ ∀ i, ¬ (60 * b ≤ i ∧ i < 60 * b + 60) → ¬ (120 + 60 * b ≤ i ∧ i < 120 + 60 * b + 60) → ¬ (240 + 60 * b ≤ i ∧ i < 240 + 60 * b + 60) → X i = W i
-- the sizes of a group changed
def upS (X : Int → Int) (b j d : Int) : Int → Int := up X ((if b = 0 then 365 else 485) + j) (X ((if b = 0 then 365 else 485) + j) + d)
theorem rM_upS {X : Int → Int} {b j d g : Int} {L R : Int → Int} (hb : 0 ≤ b ∧ b ≤ 1) (hg : 0 ≤ g ∧ g ≤ 120) (hj : 0 ≤ j ∧ j < g) (r : rM X g L R) : rM (upS X b j d) g (if b = 0 then dlt L j d else L) (if b = 0 then R else dlt R j d) := by
  unfold upS
  have h := r.2 j hj.1 hj.2
  by_cases q : b = 0
  · rw [if_pos q, if_pos q, if_pos q]
    refine ⟨by rw [up_ne (by omega)]; exact r.1, fun i x y => ?_⟩
    have h2 := r.2 i x y
    by_cases z : i = j
    · rw [z, up_at rfl, up_ne (by omega), h.1, h.2]
      exact ⟨(if_pos rfl).symm, rfl⟩
    · rw [up_ne (by omega), up_ne (by omega), h2.1, h2.2]
      exact ⟨(if_neg z).symm, rfl⟩
  · rw [if_neg q, if_neg q, if_neg q]
    refine ⟨by rw [up_ne (by omega)]; exact r.1, fun i x y => ?_⟩
    have h2 := r.2 i x y
    by_cases z : i = j
    · rw [z, up_at rfl, up_ne (by omega), h.1, h.2]
      exact ⟨rfl, (if_pos rfl).symm⟩
    · rw [up_ne (by omega), up_ne (by omega), h2.1, h2.2]
      exact ⟨rfl, (if_neg z).symm⟩
theorem okM_dlt {g m n j d b m2 n2 : Int} {L R : Int → Int} (h : okM g L R m n) (hj : 0 ≤ j ∧ j < g) (hm : m2 = (if b = 0 then m + d else m)) (hn : n2 = if b = 0 then n else n + d) (hmn : m2 ≤ 60 ∧ n2 ≤ 60) (h1 : 0 ≤ sel b L R j + d ∧ 1 ≤ L j + R j + d) : okM g (if b = 0 then dlt L j d else L) (if b = 0 then R else dlt R j d) m2 n2 := by
  unfold sel at h1
  by_cases q : b = 0
  · rw [if_pos q] at hm hn h1 ⊢
    rw [if_pos q]
    refine okM_mk h.1.1 (fun i x y => ?_) ((Sm_dlt hj).trans (by rw [h.2.2.1]; exact hm.symm)) (h.2.2.2.trans hn.symm) hmn
    have h2 := h.2.1 i x y
    unfold dlt
    by_cases z : i = j
    · rw [if_pos z, z]
      rw [z] at h2
      omega
    · rw [if_neg z]; omega
  · rw [if_neg q] at hm hn h1 ⊢
    rw [if_neg q]
    refine okM_mk h.1.1 (fun i x y => ?_) (h.2.2.1.trans hm.symm) ((Sm_dlt hj).trans (by rw [h.2.2.2]; exact hn.symm)) hmn
    have h2 := h.2.1 i x y
    unfold dlt
    by_cases z : i = j
    · rw [if_pos z, z]
      rw [z] at h2
      omega
    · rw [if_neg z]; omega
-- the reference splits: its loop
theorem f10_split79 {W V : Int → Int} {c l o : Int → Int} {b n v x j kk : Int} (hb : 0 ≤ b ∧ b ≤ 1) (hn : 0 ≤ v ∧ v < n ∧ n < 60) (hj : 0 ≤ j ∧ j < 120) (hw : W (360 + b) = n) : ∀ (m : Nat) (X : Int → Int) (k : Int), v ≤ k → k ≤ n → k - v < m → (∀ i, k < i → i ≤ n → X (60 * b + i) = l (i - 1) ∧ X (120 + 60 * b + i) = o (i - 1) ∧ X (240 + 60 * b + i) = c (i - 1)) → (∀ i, 0 ≤ i → i ≤ k → i < n → X (60 * b + i) = l i ∧ X (120 + 60 * b + i) = o i ∧ X (240 + 60 * b + i) = c i) → (∀ i, ¬ (60 * b ≤ i ∧ i < 60 * b + 60) → ¬ (120 + 60 * b ≤ i ∧ i < 120 + 60 * b + 60) → ¬ (240 + 60 * b ≤ i ∧ i < 240 + 60 * b + 60) → X i = W i) → ∃ Y : Int → Int, rV Y W b (n + 1) (ins c v (c v)) (ins (up l v x) v (l v - x)) (ins o v 0) ∧ pX10_splitVerse_L79 m (cz X) (cz V) (I kk) (I b) (I v) (I x) (I (60 * b + v)) (I j) (I k) = some (I (n + 1), cz (up (upS Y b j 1) (360 + b) (n + 1)), cz V, I kk) := by
  have hb2 : b = 0 ∨ b = 1 := by omega
  intro m
  induction m with
  | zero => intro X k h0 h1 h2; omega
  | succ m ih =>
    intro X k h0 h1 h2 hhi hlo hW
    by_cases q : k = v
    · subst q
      have hv := hlo k hn.1 (Int.le_refl _) hn.2.1
      have hc1 := hhi (k + 1) (by omega) (by omega)
      refine ⟨up (up (up X (60 * b + k + 1) (l k - x)) (120 + (60 * b + k) + 1) 0) (60 * b + k) x, ⟨fun i p z => ?_, fun i p1 p2 p3 => by rw [up_ne (by omega), up_ne (by omega), up_ne (by omega)]; exact hW i p1 p2 p3⟩, ?_⟩
      · by_cases z1 : i = k
        · rw [ins_lo (by omega), ins_lo (by omega), ins_lo (by omega), up_at z1, up_at (by omega), up_ne (by omega), up_ne (by omega), up_ne (by omega), up_ne (by omega), up_ne (by omega), up_ne (by omega), z1]
          exact ⟨rfl, hv.2.1, hv.2.2⟩
        · by_cases z2 : i = k + 1
          · rw [ins_at z2, ins_at z2, ins_at z2, up_ne (by omega), up_ne (by omega), up_at (by omega), up_ne (by omega), up_at (by omega), up_ne (by omega), up_ne (by omega), up_ne (by omega), z2, hc1.2.2, show k + 1 - 1 = k by omega]
            exact ⟨rfl, rfl, rfl⟩
          · rw [up_ne (by omega), up_ne (by omega), up_ne (by omega), up_ne (by omega), up_ne (by omega), up_ne (by omega), up_ne (by omega), up_ne (by omega), up_ne (by omega)]
            by_cases z3 : i ≤ k
            · rw [ins_lo z3, ins_lo z3, ins_lo z3, up_ne z1]
              exact hlo i p z3 (by omega)
            · rw [ins_hi (by omega), ins_hi (by omega), ins_hi (by omega), up_ne (by omega)]
              exact hhi i (by omega) (by omega)
      · show pX10_splitVerse_bL79 _ _ _ _ _ _ _ _ _ _ = _
        unfold pX10_splitVerse_bL79 pX10_splitVerse_j167 upS
        have hx : X (360 + b) = n := by rw [hW _ (by omega) (by omega) (by omega)]; exact hw
        simp (disch := omega) only [if_true, if_false, I_add, I_sub, I_mul, I_neg, I_ofNat, Option.bind_some, kIn, I_l0, I_l1, I_l2, I_l3, I_l4, I_l5, I_l6, I_l8, I_l9, I_l10, I_l11, I_l32, I_l40, I_l43, I_l44, I_l45, I_l48, I_l49, I_l57, I_l58, I_l60, I_l61, I_l62, I_l79, I_l80, I_l100, I_l120, I_l180, I_l200, I_l240, I_l300, I_l360, I_l361, I_l362, I_l363, I_l364, I_l365, I_l485, I_l605, I_l1999, I_l2000, I_le, I_lt, I_eq, I_toInt, cz_at, cz_up, if_pos, if_neg]
        rw [hv.1]
        rcases hb2 with rfl | rfl
        · simp (disch := omega) only [if_true, if_false, I_add, I_sub, I_mul, I_neg, I_ofNat, Option.bind_some, kIn, I_l0, I_l1, I_l2, I_l3, I_l4, I_l5, I_l6, I_l8, I_l9, I_l10, I_l11, I_l32, I_l40, I_l43, I_l44, I_l45, I_l48, I_l49, I_l57, I_l58, I_l60, I_l61, I_l62, I_l79, I_l80, I_l100, I_l120, I_l180, I_l200, I_l240, I_l300, I_l360, I_l361, I_l362, I_l363, I_l364, I_l365, I_l485, I_l605, I_l1999, I_l2000, I_le, I_lt, I_eq, I_toInt, cz_at, cz_up, if_pos, if_neg]
          rw [f10_size (by omega), up_at rfl, up_ne (by omega), up_ne (by omega), up_ne (by omega), up_ne (by omega), hx]
          rfl
        · simp (disch := omega) only [if_true, if_false, I_add, I_sub, I_mul, I_neg, I_ofNat, Option.bind_some, kIn, I_l0, I_l1, I_l2, I_l3, I_l4, I_l5, I_l6, I_l8, I_l9, I_l10, I_l11, I_l32, I_l40, I_l43, I_l44, I_l45, I_l48, I_l49, I_l57, I_l58, I_l60, I_l61, I_l62, I_l79, I_l80, I_l100, I_l120, I_l180, I_l200, I_l240, I_l300, I_l360, I_l361, I_l362, I_l363, I_l364, I_l365, I_l485, I_l605, I_l1999, I_l2000, I_le, I_lt, I_eq, I_toInt, cz_at, cz_up, if_pos, if_neg]
          rw [f10_size (by omega), up_at rfl, up_ne (by omega), up_ne (by omega), up_ne (by omega), up_ne (by omega), hx]
          rfl
    · have ha := cpv_at (X := X) (i := 60 * b + k - 1) (j := 60 * b + k) (by omega)
      have h3 := hlo (k - 1) (by omega) (by omega) (by omega)
      obtain ⟨Y, t1, t2⟩ := ih (cpv X (60 * b + k - 1) (60 * b + k)) (k + -1) (by omega) (by omega) (by omega) (fun i p z => by
        by_cases z1 : i = k
        · rw [z1, show 120 + 60 * b + k = 120 + (60 * b + k) by omega, show 240 + 60 * b + k = 240 + (60 * b + k) by omega, ha.1, ha.2.1, ha.2.2, show 60 * b + k - 1 = 60 * b + (k - 1) by omega, show 120 + (60 * b + (k - 1)) = 120 + 60 * b + (k - 1) by omega, show 240 + (60 * b + (k - 1)) = 240 + 60 * b + (k - 1) by omega]
          exact h3
        · rw [cpv_ne (by omega), cpv_ne (by omega), cpv_ne (by omega)]
          exact hhi i (by omega) z) (fun i p z w => by
        rw [cpv_ne (by omega), cpv_ne (by omega), cpv_ne (by omega)]
        exact hlo i p (by omega) w) (fun i p1 p2 p3 => by rw [cpv_ne (by omega)]; exact hW i p1 p2 p3)
      refine ⟨Y, t1, ?_⟩
      show pX10_splitVerse_bL79 _ _ _ _ _ _ _ _ _ _ = _
      unfold pX10_splitVerse_bL79
      simp (disch := omega) only [if_true, if_false, I_add, I_sub, I_mul, I_neg, I_ofNat, Option.bind_some, kIn, I_l0, I_l1, I_l2, I_l3, I_l4, I_l5, I_l6, I_l8, I_l9, I_l10, I_l11, I_l32, I_l40, I_l43, I_l44, I_l45, I_l48, I_l49, I_l57, I_l58, I_l60, I_l61, I_l62, I_l79, I_l80, I_l100, I_l120, I_l180, I_l200, I_l240, I_l300, I_l360, I_l361, I_l362, I_l363, I_l364, I_l365, I_l485, I_l605, I_l1999, I_l2000, I_le, if_neg]
      exact obind (f10_copyVerse (by omega)) t2
