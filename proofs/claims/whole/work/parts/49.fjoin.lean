-- the reference joins: its loop
theorem f10_join208 {Z V : Int → Int} {c l o : Int → Int} {b n v kk : Int} (hb : 0 ≤ b ∧ b ≤ 1) (hn : 0 ≤ v ∧ v + 1 < n ∧ n ≤ 60) (hw : Z (360 + b) = n - 1) : ∀ (m : Nat) (X : Int → Int) (k : Int), v + 1 ≤ k → k ≤ n - 1 → n - 1 - k < m → (∀ i, 0 ≤ i → i < k → X (60 * b + i) = rmv l v i ∧ X (120 + 60 * b + i) = rmv o v i ∧ X (240 + 60 * b + i) = rmv c v i) → (∀ i, k ≤ i → i < n → X (60 * b + i) = l i ∧ X (120 + 60 * b + i) = o i ∧ X (240 + 60 * b + i) = c i) → (∀ i, ¬ (60 * b ≤ i ∧ i < 60 * b + 60) → ¬ (120 + 60 * b ≤ i ∧ i < 120 + 60 * b + 60) → ¬ (240 + 60 * b ≤ i ∧ i < 240 + 60 * b + 60) → X i = Z i) → ∃ Y : Int → Int, rV Y Z b (n - 1) (rmv c v) (rmv l v) (rmv o v) ∧ pX10_joinVerses_L208 m (cz X) (cz V) (I kk) (I b) (I k) = some (I (n - 1), cz Y, cz V, I kk) := by
  have hb2 : b = 0 ∨ b = 1 := by omega
  intro m
  induction m with
  | zero => intro X k h0 h1 h2; omega
  | succ m ih =>
    intro X k h0 h1 h2 hlo hhi hZ
    have hs : X (360 + b) = n - 1 := by rw [hZ _ (by omega) (by omega) (by omega)]; exact hw
    by_cases q : k = n - 1
    · refine ⟨X, ⟨fun i p z => hlo i p (by omega), hZ⟩, ?_⟩
      show pX10_joinVerses_bL208 _ _ _ _ _ _ = _
      unfold pX10_joinVerses_bL208
      rw [f10_size hb, hs]
      simp (disch := omega) only [if_true, if_false, I_add, I_sub, I_mul, I_neg, I_ofNat, Option.bind_some, kIn, I_l0, I_l1, I_l2, I_l3, I_l4, I_l5, I_l6, I_l8, I_l9, I_l10, I_l11, I_l32, I_l40, I_l43, I_l44, I_l45, I_l48, I_l49, I_l57, I_l58, I_l60, I_l61, I_l62, I_l79, I_l80, I_l100, I_l120, I_l180, I_l200, I_l240, I_l300, I_l360, I_l361, I_l362, I_l363, I_l364, I_l365, I_l485, I_l605, I_l1999, I_l2000, I_le, if_pos]
    · have ha := cpv_at (X := X) (i := 60 * b + k + 1) (j := 60 * b + k) (by omega)
      have h3 := hhi (k + 1) (by omega) (by omega)
      obtain ⟨Y, t1, t2⟩ := ih (cpv X (60 * b + k + 1) (60 * b + k)) (k + 1) (by omega) (by omega) (by omega) (fun i p z => by
        by_cases z1 : i = k
        · rw [z1, show 120 + 60 * b + k = 120 + (60 * b + k) by omega, show 240 + 60 * b + k = 240 + (60 * b + k) by omega, ha.1, ha.2.1, ha.2.2, rmv_hi (by omega), rmv_hi (by omega), rmv_hi (by omega), show 60 * b + k + 1 = 60 * b + (k + 1) by omega, show 120 + (60 * b + (k + 1)) = 120 + 60 * b + (k + 1) by omega, show 240 + (60 * b + (k + 1)) = 240 + 60 * b + (k + 1) by omega]
          exact h3
        · rw [cpv_ne (by omega), cpv_ne (by omega), cpv_ne (by omega)]
          exact hlo i p (by omega)) (fun i p z => by
        rw [cpv_ne (by omega), cpv_ne (by omega), cpv_ne (by omega)]
        exact hhi i (by omega) z) (fun i p1 p2 p3 => by rw [cpv_ne (by omega)]; exact hZ i p1 p2 p3)
      refine ⟨Y, t1, ?_⟩
      show pX10_joinVerses_bL208 _ _ _ _ _ _ = _
      unfold pX10_joinVerses_bL208
      rw [f10_size hb, hs]
      simp (disch := omega) only [if_true, if_false, I_add, I_sub, I_mul, I_neg, I_ofNat, Option.bind_some, kIn, I_l0, I_l1, I_l2, I_l3, I_l4, I_l5, I_l6, I_l8, I_l9, I_l10, I_l11, I_l32, I_l40, I_l43, I_l44, I_l45, I_l48, I_l49, I_l57, I_l58, I_l60, I_l61, I_l62, I_l79, I_l80, I_l100, I_l120, I_l180, I_l200, I_l240, I_l300, I_l360, I_l361, I_l362, I_l363, I_l364, I_l365, I_l485, I_l605, I_l1999, I_l2000, I_le, if_neg]
      exact obind (f10_copyVerse (by omega)) t2
-- books split, joined
theorem okB_ins {n v x : Int} {c l o c2 l2 o2 : Int → Int} (h : okB n c l o) (hv : 0 ≤ v ∧ v < n ∧ n < 60) (hx : 1 ≤ x ∧ x < l v) (hc : ∀ i, 0 ≤ i → i < n + 1 → c2 i = ins c v (c v) i) (hl : ∀ i, 0 ≤ i → i < n + 1 → l2 i = ins (up l v x) v (l v - x) i) (ho : ∀ i, 0 ≤ i → i < n + 1 → o2 i = ins o v 0 i) : okB (n + 1) c2 l2 o2 := by
  have hvv := h.2 v hv.1 hv.2.1
  refine ⟨by omega, fun i a b => ?_⟩
  rw [hc i a b, hl i a b, ho i a b]
  by_cases z1 : i ≤ v
  · have hi := h.2 i a (by omega)
    rw [ins_lo z1, ins_lo z1, ins_lo z1]
    refine ⟨?_, hi.2.1, hi.2.2.1, hi.2.2.2.1, fun w => ?_⟩
    · by_cases z2 : i = v
      · rw [up_at z2]; omega
      · rw [up_ne z2]; exact hi.1
    · rw [hc _ (by omega) w]
      by_cases z2 : i = v
      · rw [ins_at (by omega), z2]; omega
      · rw [ins_lo (by omega)]
        exact hi.2.2.2.2 (by omega)
  · by_cases z2 : i = v + 1
    · rw [ins_at z2, ins_at z2, ins_at z2]
      refine ⟨by omega, by omega, hvv.2.2.1, fun w => by omega, fun w => ?_⟩
      rw [hc _ (by omega) w, ins_hi (by omega), show i + 1 - 1 = v + 1 by omega]
      exact hvv.2.2.2.2 (by omega)
    · have hi := h.2 (i - 1) (by omega) (by omega)
      rw [ins_hi (by omega), ins_hi (by omega), ins_hi (by omega), up_ne (by omega)]
      refine ⟨hi.1, hi.2.1, hi.2.2.1, fun w => by omega, fun w => ?_⟩
      rw [hc _ (by omega) w, ins_hi (by omega), show i + 1 - 1 = i - 1 + 1 by omega]
      exact hi.2.2.2.2 (by omega)
theorem okB_rmv {n v x y : Int} {c l o c2 l2 o2 : Int → Int} (h : okB n c l o) (hv : 0 ≤ v ∧ v + 1 < n) (hx : 1 ≤ x ∧ x ≤ 2000) (hy : 0 ≤ y ∧ y ≤ 10) (he : c v = c (v + 1)) (hc : ∀ i, 0 ≤ i → i < n - 1 → c2 i = rmv c v i) (hl : ∀ i, 0 ≤ i → i < n - 1 → l2 i = rmv (up l v x) v i) (ho : ∀ i, 0 ≤ i → i < n - 1 → o2 i = rmv (up o v y) v i) : okB (n - 1) c2 l2 o2 := by
  have h0 := h.1
  refine ⟨by omega, fun i a b => ?_⟩
  rw [hc i a b, hl i a b, ho i a b]
  by_cases z1 : i ≤ v
  · have hi := h.2 i a (by omega)
    rw [rmv_lo z1, rmv_lo z1, rmv_lo z1]
    refine ⟨?_, ?_, hi.2.2.1, hi.2.2.2.1, fun w => ?_⟩
    · by_cases z2 : i = v
      · rw [up_at z2]; exact hx
      · rw [up_ne z2]; exact hi.1
    · by_cases z2 : i = v
      · rw [up_at z2]; exact hy
      · rw [up_ne z2]; exact hi.2.1
    · rw [hc _ (by omega) w]
      by_cases z2 : i = v
      · have h4 := (h.2 (v + 1) (by omega) (by omega)).2.2.2.2 (by omega)
        rw [rmv_hi (by omega), z2, he]
        exact h4
      · rw [rmv_lo (by omega)]
        exact hi.2.2.2.2 (by omega)
  · have hi := h.2 (i + 1) (by omega) (by omega)
    rw [rmv_hi (by omega), rmv_hi (by omega), rmv_hi (by omega), up_ne (by omega), up_ne (by omega)]
    refine ⟨hi.1, hi.2.1, hi.2.2.1, fun w => by omega, fun w => ?_⟩
    rw [hc _ (by omega) w, rmv_hi (by omega)]
    exact hi.2.2.2.2 (by omega)
-- out of what the row says of the verses
theorem rV.own {X Y W : Int → Int} {b n t : Int} {c l o c2 l2 o2 : Int → Int} (hb : 0 ≤ b ∧ b ≤ 1) (hn : 0 < n ∧ n ≤ 60) (r : rV Y W b n c l o) (hX : ∀ i, i < 360 → X i = Y i) (h1 : X (360 + b) = n) (h2 : X (362 + b) = t) (ht : t = c (n - 1)) (hc : ∀ i, 0 ≤ i → i < n → c2 i = c i) (hl : ∀ i, 0 ≤ i → i < n → l2 i = l i) (ho : ∀ i, 0 ≤ i → i < n → o2 i = o i) : rB X b n c2 l2 o2 := by
  refine ⟨h1, ?_, fun i p q => ?_⟩
  · rw [h2, at0_in (by omega), hc _ (by omega) (by omega)]; exact ht
  · rw [hX _ (by omega), hX _ (by omega), hX _ (by omega), hc i p q, hl i p q, ho i p q]
    exact r.1 i p q
theorem rV.oth {X Y W : Int → Int} {b d n m : Int} {c l o c2 l2 o2 : Int → Int} (hb : (b = 0 ∧ d = 1) ∨ (b = 1 ∧ d = 0)) (hm : m ≤ 60) (r : rV Y W b n c l o) (hX : ∀ i, i < 364 → ¬ i = 360 + b → X i = Y i) (rb : rB W d m c2 l2 o2) : rB X d m c2 l2 o2 :=
  rb.keep hm (by rw [hX _ (by omega) (by omega)]; exact r.2 _ (by omega) (by omega) (by omega)) (by rw [hX _ (by omega) (by omega)]; exact r.2 _ (by omega) (by omega) (by omega)) (fun i p q => ⟨by rw [hX _ (by omega) (by omega)]; exact r.2 _ (by omega) (by omega) (by omega), by rw [hX _ (by omega) (by omega)]; exact r.2 _ (by omega) (by omega) (by omega), by rw [hX _ (by omega) (by omega)]; exact r.2 _ (by omega) (by omega) (by omega)⟩)
theorem rV.map {Y W : Int → Int} {b n g : Int} {c l o L R : Int → Int} (hb : 0 ≤ b ∧ b ≤ 1) (hg : g ≤ 120) (r : rV Y W b n c l o) (rm : rM W g L R) : rM Y g L R := rm.keep hg (fun i p q => r.2 i (by omega) (by omega) (by omega))
theorem upS_lo {X : Int → Int} {b j d i : Int} (hj : 0 ≤ j) (hi : i < 364) : upS X b j d i = X i := by
  unfold upS
  by_cases q : b = 0
  · rw [if_pos q, up_ne (by omega)]
  · rw [if_neg q, up_ne (by omega)]
-- the class: a group's size
theorem f1_resizeB {L R : Int → Int} {g a b d : Int} (h : (0 ≤ g ∧ g ≤ 120) ∧ (0 ≤ a ∧ a < g) ∧ 0 ≤ b ∧ b ≤ 1) : ∃ L2 R2 : Int → Int, (∀ i, 0 ≤ i → i < g → L2 i = (if b = 0 then dlt L a d else L) i ∧ R2 i = (if b = 0 then R else dlt R a d) i) ∧ pX1_resize (cz L) (cz R) (I g) (I a) (I b) (I d) = some (cz L2, cz R2) := by
  refine ⟨_, _, fun i x y => ?_, f1_resize h⟩
  have hb2 : b = 0 ∨ b = 1 := by omega
  rcases hb2 with rfl | rfl
  · rw [if_pos rfl, if_pos rfl, if_pos rfl, if_neg (by omega)]
    unfold dlt
    by_cases z : i = a
    · rw [up_at z, up_at z, if_pos z, z]
      exact ⟨rfl, by omega⟩
    · rw [up_ne z, up_ne z, if_neg z]
      exact ⟨rfl, rfl⟩
  · have z0 : ¬ (1 : Int) = 0 := by omega
    simp only [if_neg z0, if_pos (rfl : (1 : Int) = 1)]
    unfold dlt
    by_cases z : i = a
    · rw [up_at z, up_at z, if_pos z, z]
      exact ⟨by omega, rfl⟩
    · rw [up_ne z, up_ne z, if_neg z]
      exact ⟨rfl, rfl⟩
