-- maps changed: groups a to c joined; group a parted; a group's size changed
def mrg (F : Int → Int) (a c : Int) : Int → Int := fun i => if i < a then F i else if i = a then Sm F (c + 1) - Sm F a else F (i + (c - a))
def ctf (F : Int → Int) (a x : Int) : Int → Int := fun i => if i < a then F i else if i = a then x else if i = a + 1 then F a - x else F (i - 1)
def dlt (F : Int → Int) (a d : Int) : Int → Int := fun i => if i = a then F i + d else F i
theorem Sm_dlt {F : Int → Int} {a d g : Int} (h : 0 ≤ a ∧ a < g) : Sm (dlt F a d) g = Sm F g + d := by
  have e1 : Sm (dlt F a d) a = Sm F a := Sm_congr h.1 (fun i x y => if_neg (by omega))
  have e2 : Sm (dlt F a d) (a + 1) = Sm (dlt F a d) a + dlt F a d a := Sm_s h.1
  have e3 : Sm F (a + 1) = Sm F a + F a := Sm_s h.1
  have e4 : dlt F a d a = F a + d := if_pos rfl
  have e5 := Sm_shift (F := F) (G := dlt F a d) (a := a + 1) (d := 0) (n := g) (by omega) (by omega) (by omega) (fun i x y => by show (if i = a then F i + d else F i) = F (i + 0); rw [if_neg (by omega), Int.add_zero])
  rw [Int.add_zero, Int.add_zero] at e5
  omega
theorem Sm_mrg {F : Int → Int} {a c g : Int} (h : 0 ≤ a ∧ a ≤ c ∧ c < g) : Sm (mrg F a c) (g - (c - a)) = Sm F g := by
  have e1 : Sm (mrg F a c) a = Sm F a := Sm_congr h.1 (fun i x y => if_pos (by omega))
  have e2 : Sm (mrg F a c) (a + 1) = Sm (mrg F a c) a + mrg F a c a := Sm_s h.1
  have e4 : mrg F a c a = Sm F (c + 1) - Sm F a := by
    unfold mrg
    rw [if_neg (by omega), if_pos rfl]
  have e5 := Sm_shift (F := F) (G := mrg F a c) (a := a + 1) (d := c - a) (n := g - (c - a)) (by omega) (by omega) (by omega) (fun i x y => by unfold mrg; rw [if_neg (by omega), if_neg (by omega)])
  rw [show g - (c - a) + (c - a) = g by omega, show a + 1 + (c - a) = c + 1 by omega] at e5
  omega
theorem Sm_ctf {F : Int → Int} {a x g : Int} (h : 0 ≤ a ∧ a < g) : Sm (ctf F a x) (g + 1) = Sm F g := by
  have e1 : Sm (ctf F a x) a = Sm F a := Sm_congr h.1 (fun i u v => if_pos (by omega))
  have e2 : Sm (ctf F a x) (a + 1) = Sm (ctf F a x) a + ctf F a x a := Sm_s h.1
  have e3 : Sm (ctf F a x) (a + 1 + 1) = Sm (ctf F a x) (a + 1) + ctf F a x (a + 1) := Sm_s (by omega)
  have e4 : ctf F a x a = x := by
    unfold ctf
    rw [if_neg (by omega), if_pos rfl]
  have e6 : ctf F a x (a + 1) = F a - x := by
    unfold ctf
    rw [if_neg (by omega), if_neg (by omega), if_pos rfl]
  have e7 : Sm F (a + 1) = Sm F a + F a := Sm_s h.1
  have e5 := Sm_shift (F := F) (G := ctf F a x) (a := a + 1 + 1) (d := -1) (n := g + 1) (by omega) (by omega) (by omega) (fun i u v => by unfold ctf; rw [if_neg (by omega), if_neg (by omega), if_neg (by omega), show i - 1 = i + -1 by omega])
  rw [show g + 1 + -1 = g by omega, show a + 1 + 1 + -1 = a + 1 by omega] at e5
  omega
-- each value is at most the sum
theorem le_Sm {F : Int → Int} {g i : Int} (hF : ∀ i, 0 ≤ i → i < g → 0 ≤ F i) (hi : 0 ≤ i ∧ i < g) : F i ≤ Sm F g := by
  have e1 := Sm_nn (F := F) hi.1 (fun j a b => hF j a (by omega))
  have e2 : Sm F (i + 1) = Sm F i + F i := Sm_s hi.1
  have e3 := Sm_mono (F := F) (m := i + 1) (n := g) (by omega) (by omega) (fun j a b => hF j (by omega) b)
  omega
theorem okM_mk {g m n : Int} {L R : Int → Int} (hg : 0 ≤ g) (h : ∀ i, 0 ≤ i → i < g → 0 ≤ L i ∧ 0 ≤ R i ∧ 1 ≤ L i + R i) (hm : Sm L g = m) (hn : Sm R g = n) (hmn : m ≤ 60 ∧ n ≤ 60) : okM g L R m n := by
  have e1 := Sm_lo (F := fun i => L i + R i) (c := 1) hg (fun i a b => (h i a b).2.2)
  have e2 := Sm_add (F := L) (G := R) hg
  refine ⟨by omega, fun i a b => ?_, hm, hn⟩
  have e3 := le_Sm (F := L) (fun i a b => (h i a b).1) ⟨a, b⟩
  have e4 := le_Sm (F := R) (fun i a b => (h i a b).2.1) ⟨a, b⟩
  have e5 := h i a b
  omega
theorem okM_g {g m n : Int} {L R : Int → Int} (h : okM g L R m n) : g ≤ m + n := by
  have e1 := Sm_lo (F := fun i => L i + R i) (c := 1) h.1.1 (fun i a b => (h.2.1 i a b).2.2)
  have e2 := Sm_add (F := L) (G := R) h.1.1
  have e3 := h.2.2
  omega
theorem okM_g2 {g m n a : Int} {L R : Int → Int} (h : okM g L R m n) (ha : 0 ≤ a ∧ a < g) (h2 : 2 ≤ L a + R a) : g + 1 ≤ m + n := by
  have e1 := Sm_lo (F := dlt (fun i => L i + R i) a (-1)) (c := 1) h.1.1 (fun i x y => by
    have := (h.2.1 i x y).2.2
    unfold dlt
    by_cases q : i = a
    · rw [if_pos q, q]
      show 1 ≤ L a + R a + -1
      omega
    · rw [if_neg q]; exact this)
  have e2 := Sm_add (F := L) (G := R) h.1.1
  have e3 := h.2.2
  have e4 := Sm_dlt (F := fun i => L i + R i) (a := a) (d := -1) (g := g) ha
  omega
-- the group of a verse
theorem ex_grp {F : Int → Int} {g v n : Int} (hF : ∀ i, 0 ≤ i → i < g → 0 ≤ F i) (hg : 0 ≤ g) (hn : Sm F g = n) (hv : 0 ≤ v ∧ v < n) : ∃ j, (0 ≤ j ∧ j < g) ∧ Sm F j ≤ v ∧ v < Sm F (j + 1) := by
  have key : ∀ k, 0 ≤ k → v < Sm F k → ∃ j, (0 ≤ j ∧ j < k) ∧ Sm F j ≤ v ∧ v < Sm F (j + 1) := by
    intro k hk
    refine zind (P := fun k => v < Sm F k → ∃ j, (0 ≤ j ∧ j < k) ∧ Sm F j ≤ v ∧ v < Sm F (j + 1)) (fun h => by rw [Sm_0] at h; omega) (fun k hk ih h => ?_) k hk
    by_cases q : v < Sm F k
    · obtain ⟨j, a, b⟩ := ih q
      exact ⟨j, by omega, b⟩
    · exact ⟨k, by omega, by omega, h⟩
  exact key g hg (by omega)
-- a place in the order of groups
theorem grp_mono {F : Int → Int} {g v w i j : Int} (hF : ∀ i, 0 ≤ i → i < g → 0 ≤ F i) (hi : 0 ≤ i ∧ i < g) (hj : 0 ≤ j ∧ j < g) (h1 : Sm F i ≤ v) (h2 : w < Sm F (j + 1)) (hvw : v ≤ w) : i ≤ j := by
  by_cases q : i ≤ j
  · exact q
  · have := Sm_mono (F := F) (m := j + 1) (n := i) (by omega) (by omega) (fun k a b => hF k (by omega) (by omega))
    omega
-- the class's maps are these
theorem mrg_class {L : Int → Int} {g a c i : Int} (h : (0 ≤ g ∧ g ≤ 120) ∧ 0 ≤ a ∧ a < c ∧ c < g) (hi : 0 ≤ i ∧ i < g - (c - a)) : cls (up L a (Sm L c - Sm L a + L c)) 120 (a + 1) (c - a) g i = mrg L a c i := by
  have e : Sm L (c + 1) = Sm L c + L c := Sm_s (by omega)
  unfold cls cpy mrg
  rw [if_pos (by omega)]
  by_cases q : i < a
  · rw [if_neg (by omega), if_pos q, up_ne (by omega)]
  · by_cases q2 : i = a
    · rw [if_neg (by omega), if_neg q, if_pos q2, q2, up_at rfl]
      omega
    · rw [if_pos (by omega), if_neg q, if_neg q2, up_ne (by omega), show a + 1 + (c - a) + (i - (a + 1)) = i + (c - a) by omega]
theorem ctf_class {L : Int → Int} {g a x i : Int} (h : (0 ≤ g ∧ g < 120) ∧ 0 ≤ a ∧ a < g) (hi : 0 ≤ i ∧ i < g + 1) : up (up (opn L 120 a g) a x) (a + 1) (L a - x) i = ctf L a x i := by
  unfold ctf
  by_cases q : i = a + 1
  · rw [up_at q, if_neg (by omega), if_neg (by omega), if_pos q]
  · rw [up_ne q]
    by_cases q2 : i = a
    · rw [up_at q2, if_neg (by omega), if_pos q2]
    · rw [up_ne q2]
      unfold opn cpy
      rw [if_pos (by omega)]
      by_cases q3 : i < a
      · rw [if_neg (by omega), if_pos q3]
      · rw [if_pos (by omega), if_neg q3, if_neg q2, if_neg q, show a + (i - (a + 1)) = i - 1 by omega]
-- the reference joins groups
theorem f10_join2 {W L R : Int → Int} {g a c : Int} (h : (0 ≤ g ∧ g ≤ 120) ∧ 0 ≤ a ∧ a ≤ c ∧ c < g) : ∀ (m : Nat) (X : Int → Int) (k : Int), a + 1 ≤ k → k + (c - a) ≤ g → g - (c - a) - k < m → X 364 = g → (∀ i, 0 ≤ i → i < k → X (365 + i) = mrg L a c i ∧ X (485 + i) = mrg R a c i) → (∀ i, k ≤ i → i < g → X (365 + i) = L i ∧ X (485 + i) = R i) → (∀ i, i < 364 → X i = W i) → ∃ X2 : Int → Int, rM X2 (g - (c - a)) (mrg L a c) (mrg R a c) ∧ (∀ i, i < 364 → X2 i = W i) ∧ pX10_joinGroups_L74 m (cz X) (I (c - a)) (I k) = some (cz X2) := by
  intro m
  induction m with
  | zero => intro X k h0 h1 h2; omega
  | succ m ih =>
    intro X k h0 h1 h2 hg hlo hhi hW
    by_cases q : k + (c - a) = g
    · refine ⟨up X 364 (g - (c - a)), ⟨up_at rfl, fun i x y => ?_⟩, fun i x => by rw [up_ne (by omega)]; exact hW i x, ?_⟩
      · rw [up_ne (by omega), up_ne (by omega)]
        exact hlo i x (by omega)
      · show pX10_joinGroups_bL74 _ _ _ _ = _
        unfold pX10_joinGroups_bL74
        rw [f10_groups, hg]
        simp (disch := omega) only [if_true, if_false, I_add, I_sub, I_mul, I_neg, I_ofNat, Option.bind_some, kIn, I_l0, I_l1, I_l2, I_l3, I_l4, I_l5, I_l6, I_l8, I_l9, I_l10, I_l11, I_l32, I_l40, I_l43, I_l44, I_l45, I_l48, I_l49, I_l57, I_l58, I_l60, I_l61, I_l62, I_l79, I_l80, I_l100, I_l120, I_l180, I_l200, I_l240, I_l300, I_l360, I_l361, I_l362, I_l363, I_l364, I_l365, I_l485, I_l605, I_l1999, I_l2000, I_le, I_lt, I_eq, I_toInt, cz_at, cz_up, if_pos, if_neg]
        rw [hg]
    · have h3 := hhi (k + (c - a)) (by omega) (by omega)
      have em : mrg L a c k = L (k + (c - a)) ∧ mrg R a c k = R (k + (c - a)) := by
        unfold mrg
        rw [if_neg (by omega), if_neg (by omega), if_neg (by omega), if_neg (by omega)]
        exact ⟨rfl, rfl⟩
      obtain ⟨X2, t1, t2, t3⟩ := ih (up (up X (365 + k) (L (k + (c - a)))) (485 + k) (R (k + (c - a)))) (k + 1) (by omega) (by omega) (by omega) (by rw [up_ne (by omega), up_ne (by omega)]; exact hg) (fun i x y => by
        by_cases z : i = k
        · rw [z, up_ne (by omega), up_at rfl, up_at rfl]
          exact ⟨em.1.symm, em.2.symm⟩
        · rw [up_ne (by omega), up_ne (by omega), up_ne (by omega), up_ne (by omega)]
          exact hlo i x (by omega)) (fun i x y => by
        rw [up_ne (by omega), up_ne (by omega), up_ne (by omega), up_ne (by omega)]
        exact hhi i (by omega) y) (fun i x => by rw [up_ne (by omega), up_ne (by omega)]; exact hW i x)
      refine ⟨X2, t1, t2, ?_⟩
      show pX10_joinGroups_bL74 _ _ _ _ = _
      unfold pX10_joinGroups_bL74
      rw [f10_groups, hg]
      simp (disch := omega) only [if_true, if_false, I_add, I_sub, I_mul, I_neg, I_ofNat, Option.bind_some, kIn, I_l0, I_l1, I_l2, I_l3, I_l4, I_l5, I_l6, I_l8, I_l9, I_l10, I_l11, I_l32, I_l40, I_l43, I_l44, I_l45, I_l48, I_l49, I_l57, I_l58, I_l60, I_l61, I_l62, I_l79, I_l80, I_l100, I_l120, I_l180, I_l200, I_l240, I_l300, I_l360, I_l361, I_l362, I_l363, I_l364, I_l365, I_l485, I_l605, I_l1999, I_l2000, I_le, I_lt, I_eq, I_toInt, cz_at, cz_up, if_pos, if_neg]
      rw [up_ne (by omega), show 365 + k + (c - a) = 365 + (k + (c - a)) by omega, show 485 + k + (c - a) = 485 + (k + (c - a)) by omega, h3.1, h3.2]
      exact t3
theorem f10_join1 {W L R : Int → Int} {g a c : Int} (h : (0 ≤ g ∧ g ≤ 120) ∧ 0 ≤ a ∧ a ≤ c ∧ c < g) (rm : rM W g L R) : ∀ (m : Nat) (X : Int → Int) (k : Int), a + 1 ≤ k → k ≤ c + 1 → c + 1 - k < m → X (365 + a) = Sm L k - Sm L a → X (485 + a) = Sm R k - Sm R a → (∀ i, ¬ i = 365 + a → ¬ i = 485 + a → X i = W i) → ∃ X2 : Int → Int, rM X2 (g - (c - a)) (mrg L a c) (mrg R a c) ∧ (∀ i, i < 364 → X2 i = W i) ∧ pX10_joinGroups_L9 m (cz X) (I a) (I c) (I (c - a)) (I k) = some (cz X2) := by
  intro m
  induction m with
  | zero => intro X k h0 h1 h2; omega
  | succ m ih =>
    intro X k h0 h1 h2 hl hr hW
    by_cases q : k = c + 1
    · subst q
      obtain ⟨X2, t1, t2, t3⟩ := f10_join2 (W := W) (L := L) (R := R) h 4000 X (a + 1) (by omega) (by omega) (by omega) (by rw [hW _ (by omega) (by omega)]; exact rm.1) (fun i x y => by
        unfold mrg
        by_cases z : i = a
        · rw [if_neg (by omega), if_pos z, if_neg (by omega), if_pos z, z]
          exact ⟨hl, hr⟩
        · rw [if_pos (by omega), if_pos (by omega), hW _ (by omega) (by omega), hW _ (by omega) (by omega)]
          exact rm.2 i x (by omega)) (fun i x y => by rw [hW _ (by omega) (by omega), hW _ (by omega) (by omega)]; exact rm.2 i (by omega) y) (fun i x => hW i (by omega) (by omega))
      refine ⟨X2, t1, t2, ?_⟩
      show pX10_joinGroups_bL9 _ _ _ _ _ _ = _
      unfold pX10_joinGroups_bL9
      simp (disch := omega) only [if_true, if_false, I_add, I_sub, I_mul, I_neg, I_ofNat, Option.bind_some, kIn, I_l0, I_l1, I_l2, I_l3, I_l4, I_l5, I_l6, I_l8, I_l9, I_l10, I_l11, I_l32, I_l40, I_l43, I_l44, I_l45, I_l48, I_l49, I_l57, I_l58, I_l60, I_l61, I_l62, I_l79, I_l80, I_l100, I_l120, I_l180, I_l200, I_l240, I_l300, I_l360, I_l361, I_l362, I_l363, I_l364, I_l365, I_l485, I_l605, I_l1999, I_l2000, I_lt, if_pos]
      exact t3
    · have h3 := rm.2 k (by omega) (by omega)
      have e1 : Sm L (k + 1) = Sm L k + L k := Sm_s (by omega)
      have e2 : Sm R (k + 1) = Sm R k + R k := Sm_s (by omega)
      obtain ⟨X2, t1, t2, t3⟩ := ih (up (up X (365 + a) (X (365 + a) + X (365 + k))) (485 + a) (X (485 + a) + X (485 + k))) (k + 1) (by omega) (by omega) (by omega) (by rw [up_ne (by omega), up_at rfl, hW (365 + k) (by omega) (by omega), h3.1]; omega) (by rw [up_at rfl, hW (485 + k) (by omega) (by omega), h3.2]; omega) (fun i x y => by rw [up_ne (by omega), up_ne (by omega)]; exact hW i x y)
      refine ⟨X2, t1, t2, ?_⟩
      show pX10_joinGroups_bL9 _ _ _ _ _ _ = _
      unfold pX10_joinGroups_bL9
      simp (disch := omega) only [if_true, if_false, I_add, I_sub, I_mul, I_neg, I_ofNat, Option.bind_some, kIn, I_l0, I_l1, I_l2, I_l3, I_l4, I_l5, I_l6, I_l8, I_l9, I_l10, I_l11, I_l32, I_l40, I_l43, I_l44, I_l45, I_l48, I_l49, I_l57, I_l58, I_l60, I_l61, I_l62, I_l79, I_l80, I_l100, I_l120, I_l180, I_l200, I_l240, I_l300, I_l360, I_l361, I_l362, I_l363, I_l364, I_l365, I_l485, I_l605, I_l1999, I_l2000, I_le, I_lt, I_eq, I_toInt, cz_at, cz_up, if_pos, if_neg]
      rw [up_ne (by omega), up_ne (by omega)]
      exact t3
theorem f10_joinGroups {W L R : Int → Int} {g a c : Int} (h : (0 ≤ g ∧ g ≤ 120) ∧ 0 ≤ a ∧ a ≤ c ∧ c < g) (rm : rM W g L R) : ∃ X2 : Int → Int, rM X2 (g - (c - a)) (mrg L a c) (mrg R a c) ∧ (∀ i, i < 364 → X2 i = W i) ∧ pX10_joinGroups (cz W) (I a) (I c) = some (cz X2) := by
  have h3 := rm.2 a (by omega) (by omega)
  have e1 : Sm L (a + 1) = Sm L a + L a := Sm_s (by omega)
  have e2 : Sm R (a + 1) = Sm R a + R a := Sm_s (by omega)
  obtain ⟨X2, t1, t2, t3⟩ := f10_join1 h rm 4000 W (a + 1) (by omega) (by omega) (by omega) (by rw [h3.1]; omega) (by rw [h3.2]; omega) (fun i _ _ => rfl)
  refine ⟨X2, t1, t2, ?_⟩
  unfold pX10_joinGroups
  simp only [if_true, if_false, I_add, I_sub, I_mul, I_neg, I_ofNat, Option.bind_some, kIn, I_l0, I_l1, I_l2, I_l3, I_l4, I_l5, I_l6, I_l8, I_l9, I_l10, I_l11, I_l32, I_l40, I_l43, I_l44, I_l45, I_l48, I_l49, I_l57, I_l58, I_l60, I_l61, I_l62, I_l79, I_l80, I_l100, I_l120, I_l180, I_l200, I_l240, I_l300, I_l360, I_l361, I_l362, I_l363, I_l364, I_l365, I_l485, I_l605, I_l1999, I_l2000]
  exact t3
