-- both sides join alike
theorem f10_joinVerses {W V V2 : Int → Int} {c l o L R : Int → Int} {b n v j j2 g x y k2 : Int} {kk : Int32} (hb : 0 ≤ b ∧ b ≤ 1) (hn : 0 ≤ v ∧ v + 1 < n) (rb : rB W b n c l o) (rm : rM W g L R) (ho : okB n c l o) (he : c v = c (v + 1)) (hj : 0 ≤ j ∧ j ≤ j2 ∧ j2 < g ∧ g ≤ 120) (hx : x = if 2000 < l v + l (v + 1) then 2000 else l v + l (v + 1)) (hy : y = if 10 < o v + o (v + 1) then 10 else o v + o (v + 1)) (q1 : pX10_groupOf (cz W) (I b) (I v) = some (I j)) (q2 : pX10_groupOf (cz W) (I b) (I (v + 1)) = some (I j2)) (e2 : pX10_record (cz W) (cz V) kk = some (cz V2, I k2)) : ∃ Y : Int → Int, rB Y b (n - 1) (rmv c v) (rmv (up l v x) v) (rmv (up o v y) v) ∧ rM Y (g - (j2 - j)) (if b = 0 then dlt (mrg L j j2) j (-1) else mrg L j j2) (if b = 0 then mrg R j j2 else dlt (mrg R j j2) j (-1)) ∧ (∀ (d m : Int) (c2 l2 o2 : Int → Int), (b = 0 ∧ d = 1) ∨ (b = 1 ∧ d = 0) → m ≤ 60 → rB W d m c2 l2 o2 → rB Y d m c2 l2 o2) ∧ pX10_joinVerses (cz W) (cz V) kk (I b) (I v) = some (I (n - 1), cz Y, cz V2, I k2) := by
  have hb2 : b = 0 ∨ b = 1 := by omega
  have hn2 := ho.1
  obtain ⟨X2, u1, u2, u3⟩ := f10_joinGroups (W := W) (L := L) (R := R) (g := g) (a := j) (c := j2) (by omega) rm
  have p0 := rb.2.2 v hn.1 (by omega)
  have p1 := rb.2.2 (v + 1) (by omega) hn.2
  have b0 := ho.2 v hn.1 (by omega)
  have b1 := ho.2 (v + 1) (by omega) hn.2
  have s0 : X2 (60 * b + v) = l v := by rw [u2 _ (by omega)]; exact p0.1
  have s1 : X2 (60 * b + v + 1) = l (v + 1) := by rw [u2 _ (by omega), show 60 * b + v + 1 = 60 * b + (v + 1) by omega]; exact p1.1
  have s2 : X2 (120 + (60 * b + v)) = o v := by rw [u2 _ (by omega), show 120 + (60 * b + v) = 120 + 60 * b + v by omega]; exact p0.2.1
  have s3 : X2 (120 + (60 * b + v) + 1) = o (v + 1) := by rw [u2 _ (by omega), show 120 + (60 * b + v) + 1 = 120 + 60 * b + (v + 1) by omega]; exact p1.2.1
  have e4 : ∀ i, ¬ i = 60 * b + v → ¬ i = 120 + (60 * b + v) → up (up X2 (60 * b + v) x) (120 + (60 * b + v)) y i = X2 i := fun i z1 z2 => by rw [up_ne z2, up_ne z1]
  have e6 : ∀ i, i < 364 → ¬ i = 360 + b → up (upS (up (up X2 (60 * b + v) x) (120 + (60 * b + v)) y) b j (-1)) (360 + b) (n - 1) i = up (up X2 (60 * b + v) x) (120 + (60 * b + v)) y i := fun i z1 z2 => by rw [up_ne z2, upS_lo hj.1 z1]
  have e7 : ∀ i, i < 364 → ¬ i = 360 + b → ¬ i = 60 * b + v → ¬ i = 120 + (60 * b + v) → up (upS (up (up X2 (60 * b + v) x) (120 + (60 * b + v)) y) b j (-1)) (360 + b) (n - 1) i = W i := fun i z1 z2 z3 z4 => by rw [e6 i z1 z2, e4 i z3 z4, u2 i z1]
  have r4 : rM (up (up X2 (60 * b + v) x) (120 + (60 * b + v)) y) (g - (j2 - j)) (mrg L j j2) (mrg R j j2) := u1.keep (by omega) (fun i z1 z2 => e4 i (by omega) (by omega))
  have r6 : rM (up (upS (up (up X2 (60 * b + v) x) (120 + (60 * b + v)) y) b j (-1)) (360 + b) (n - 1)) (g - (j2 - j)) (if b = 0 then dlt (mrg L j j2) j (-1) else mrg L j j2) (if b = 0 then mrg R j j2 else dlt (mrg R j j2) j (-1)) := (rM_upS (b := b) (d := -1) hb (by omega) (by omega) r4).keep (by omega) (fun i z1 z2 => up_ne (by omega))
  obtain ⟨Y, y1, y2⟩ := f10_join208 (Z := up (upS (up (up X2 (60 * b + v) x) (120 + (60 * b + v)) y) b j (-1)) (360 + b) (n - 1)) (V := V2) (c := c) (l := up l v x) (o := up o v y) (b := b) (n := n) (v := v) (kk := k2) hb (by omega) (up_at rfl) 4000 _ (v + 1) (by omega) (by omega) (by omega) (fun i z1 z2 => by
    rw [rmv_lo (by omega), rmv_lo (by omega), rmv_lo (by omega)]
    have h3 := rb.2.2 i z1 (by omega)
    by_cases z : i = v
    · rw [e6 _ (by omega) (by omega), e6 _ (by omega) (by omega), e7 _ (by omega) (by omega) (by omega) (by omega), up_ne (by omega), up_at (by omega), up_at z, up_at (by omega), up_at z]
      exact ⟨rfl, rfl, h3.2.2⟩
    · rw [e7 _ (by omega) (by omega) (by omega) (by omega), e7 _ (by omega) (by omega) (by omega) (by omega), e7 _ (by omega) (by omega) (by omega) (by omega), up_ne z, up_ne z]
      exact h3) (fun i z1 z2 => by
    rw [e7 _ (by omega) (by omega) (by omega) (by omega), e7 _ (by omega) (by omega) (by omega) (by omega), e7 _ (by omega) (by omega) (by omega) (by omega), up_ne (by omega), up_ne (by omega)]
    exact rb.2.2 i (by omega) z2) (fun i _ _ _ => rfl)
  refine ⟨Y, ?_, y1.map hb (by omega) r6, fun d m c2 l2 o2 hd hm rd => ?_, ?_⟩
  · refine y1.own (t := c (n - 1)) hb (by omega) (fun i _ => rfl) ?_ ?_ ?_ (fun i _ _ => rfl) (fun i _ _ => rfl) (fun i _ _ => rfl)
    · rw [y1.2 _ (by omega) (by omega) (by omega)]; exact up_at rfl
    · rw [y1.2 _ (by omega) (by omega) (by omega), e7 _ (by omega) (by omega) (by omega) (by omega), rb.2.1, at0_in (by omega)]
    · by_cases z : v = n - 2
      · rw [rmv_lo (by omega), show n - 1 - 1 = v by omega, he, show n - 1 = v + 1 by omega]
      · rw [rmv_hi (by omega), show n - 1 - 1 + 1 = n - 1 by omega]
  · refine y1.oth (d := d) hd hm (fun i _ _ => rfl) ?_
    exact rd.keep hm (by rw [e7 _ (by omega) (by omega) (by omega) (by omega)]) (by rw [e7 _ (by omega) (by omega) (by omega) (by omega)]) (fun i p q => ⟨by rw [e7 _ (by omega) (by omega) (by omega) (by omega)], by rw [e7 _ (by omega) (by omega) (by omega) (by omega)], by rw [e7 _ (by omega) (by omega) (by omega) (by omega)]⟩)
  · unfold pX10_joinVerses
    simp only [if_true, if_false, I_add, I_sub, I_mul, I_neg, I_ofNat, Option.bind_some, kIn, I_l0, I_l1, I_l2, I_l3, I_l4, I_l5, I_l6, I_l8, I_l9, I_l10, I_l11, I_l32, I_l40, I_l43, I_l44, I_l45, I_l48, I_l49, I_l57, I_l58, I_l60, I_l61, I_l62, I_l79, I_l80, I_l100, I_l120, I_l180, I_l200, I_l240, I_l300, I_l360, I_l361, I_l362, I_l363, I_l364, I_l365, I_l485, I_l605, I_l1999, I_l2000]
    rw [f10_noVerse (n := n) (by omega) rb.1, if_pos (by omega), f10_size hb, rb.1, f10_chapterOf (by omega) rb, f10_chapterOf (by omega) rb, ← he]
    simp (disch := omega) only [if_true, if_false, I_add, I_sub, I_mul, I_neg, I_ofNat, Option.bind_some, kIn, I_l0, I_l1, I_l2, I_l3, I_l4, I_l5, I_l6, I_l8, I_l9, I_l10, I_l11, I_l32, I_l40, I_l43, I_l44, I_l45, I_l48, I_l49, I_l57, I_l58, I_l60, I_l61, I_l62, I_l79, I_l80, I_l100, I_l120, I_l180, I_l200, I_l240, I_l300, I_l360, I_l361, I_l362, I_l363, I_l364, I_l365, I_l485, I_l605, I_l1999, I_l2000, I_eq, if_neg, if_pos]
    refine obind e2 (obind q1 (obind q2 (obind u3 ?_)))
    simp (disch := omega) only [if_true, if_false, I_add, I_sub, I_mul, I_neg, I_ofNat, Option.bind_some, kIn, I_l0, I_l1, I_l2, I_l3, I_l4, I_l5, I_l6, I_l8, I_l9, I_l10, I_l11, I_l32, I_l40, I_l43, I_l44, I_l45, I_l48, I_l49, I_l57, I_l58, I_l60, I_l61, I_l62, I_l79, I_l80, I_l100, I_l120, I_l180, I_l200, I_l240, I_l300, I_l360, I_l361, I_l362, I_l363, I_l364, I_l365, I_l485, I_l605, I_l1999, I_l2000, I_le, I_lt, I_eq, I_toInt, cz_at, cz_up, if_pos, if_neg, s0, s1, s2, s3]
    have K : ∀ (x' y' : Int), x' = x → y' = y → pX10_joinVerses_j182 (upd (upd (cz X2) (I (60 * b + v)).toNatClampNeg (I x')) (I (120 + (60 * b + v))).toNatClampNeg (I y')) (cz V2) (I k2) (I b) (I v) (I j) (I (if b = 0 then 365 else 485)) = some (I (n - 1), cz Y, cz V2, I k2) := by
      intro x' y' a1 a2
      rw [a1, a2]
      refine Eq.trans ?_ y2
      unfold pX10_joinVerses_j182 upS
      have s4 : ∀ (a w : Int), 364 < a → up (up (up X2 (60 * b + v) x) (120 + (60 * b + v)) y) a w (360 + b) = n := fun a w h => by
        rw [up_ne (by omega), up_ne (by omega), up_ne (by omega), u2 _ (by omega)]
        exact rb.1
      rcases hb2 with rfl | rfl
      · simp (disch := omega) only [if_true, if_false, I_add, I_sub, I_mul, I_neg, I_ofNat, Option.bind_some, kIn, I_l0, I_l1, I_l2, I_l3, I_l4, I_l5, I_l6, I_l8, I_l9, I_l10, I_l11, I_l32, I_l40, I_l43, I_l44, I_l45, I_l48, I_l49, I_l57, I_l58, I_l60, I_l61, I_l62, I_l79, I_l80, I_l100, I_l120, I_l180, I_l200, I_l240, I_l300, I_l360, I_l361, I_l362, I_l363, I_l364, I_l365, I_l485, I_l605, I_l1999, I_l2000, I_le, I_lt, I_eq, I_toInt, cz_at, cz_up, if_pos, if_neg]
        rw [s4 _ _ (by omega)]
        rfl
      · simp (disch := omega) only [if_true, if_false, I_add, I_sub, I_mul, I_neg, I_ofNat, Option.bind_some, kIn, I_l0, I_l1, I_l2, I_l3, I_l4, I_l5, I_l6, I_l8, I_l9, I_l10, I_l11, I_l32, I_l40, I_l43, I_l44, I_l45, I_l48, I_l49, I_l57, I_l58, I_l60, I_l61, I_l62, I_l79, I_l80, I_l100, I_l120, I_l180, I_l200, I_l240, I_l300, I_l360, I_l361, I_l362, I_l363, I_l364, I_l365, I_l485, I_l605, I_l1999, I_l2000, I_le, I_lt, I_eq, I_toInt, cz_at, cz_up, if_pos, if_neg]
        rw [s4 _ _ (by omega)]
        rfl
    have K2 : ∀ x' : Int, x' = x → pX10_joinVerses_j140 (cz X2) (cz V2) (I k2) (I b) (I v) (I j) (I (60 * b + v)) (I (o v + o (v + 1))) (I (60 * b + v)) (I x') = some (I (n - 1), cz Y, cz V2, I k2) := by
      intro x' a1
      unfold pX10_joinVerses_j140 pX10_joinVerses_j164
      simp (disch := omega) only [if_true, if_false, I_add, I_sub, I_mul, I_neg, I_ofNat, Option.bind_some, kIn, I_l0, I_l1, I_l2, I_l3, I_l4, I_l5, I_l6, I_l8, I_l9, I_l10, I_l11, I_l32, I_l40, I_l43, I_l44, I_l45, I_l48, I_l49, I_l57, I_l58, I_l60, I_l61, I_l62, I_l79, I_l80, I_l100, I_l120, I_l180, I_l200, I_l240, I_l300, I_l360, I_l361, I_l362, I_l363, I_l364, I_l365, I_l485, I_l605, I_l1999, I_l2000, I_le, I_lt, I_eq, I_toInt, if_pos, if_neg]
      by_cases z : o v + o (v + 1) ≤ 10
      · rw [if_pos z]
        rcases hb2 with rfl | rfl
        · rw [if_pos rfl]
          exact K _ _ a1 (by omega)
        · rw [if_neg (by omega)]
          exact K _ _ a1 (by omega)
      · rw [if_neg z]
        rcases hb2 with rfl | rfl
        · rw [if_pos rfl]
          exact K _ _ a1 (by omega)
        · rw [if_neg (by omega)]
          exact K _ _ a1 (by omega)
    by_cases z : l v + l (v + 1) ≤ 2000
    · rw [if_pos z]
      exact K2 _ (by omega)
    · rw [if_neg z]
      exact K2 _ (by omega)
