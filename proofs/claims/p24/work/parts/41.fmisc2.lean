-- out of 47.fact5
-- both sides add a chapter alike
theorem okB_exf {n v x : Int} {c l o c2 l2 o2 : Int → Int} (h : okB n c l o) (hv : 1 ≤ v ∧ n + v ≤ 60) (hx : 1 ≤ x ∧ x ≤ 2000) (hch : at0 c n (n - 1) + 1 ≤ 10) (hc : ∀ i, 0 ≤ i → i < n + v → c2 i = exf c n (at0 c n (n - 1) + 1) i) (hl : ∀ i, 0 ≤ i → i < n + v → l2 i = exf l n x i) (ho : ∀ i, 0 ≤ i → i < n + v → o2 i = exf o n 0 i) : okB (n + v) c2 l2 o2 := by
  have h0 := h.1
  have hp : (n = 0 ∧ at0 c n (n - 1) = 0) ∨ (0 < n ∧ at0 c n (n - 1) = c (n - 1) ∧ 1 ≤ c (n - 1)) := by
    by_cases z : n = 0
    · exact Or.inl ⟨z, at0_out (by omega)⟩
    · exact Or.inr ⟨by omega, at0_in (by omega), (h.2 (n - 1) (by omega) (by omega)).2.2.1.1⟩
  refine ⟨by omega, fun i a b => ?_⟩
  rw [hc i a b, hl i a b, ho i a b]
  by_cases z : i < n
  · rw [exf_lo z, exf_lo z, exf_lo z]
    obtain ⟨q1, q2, q3, q4, q5⟩ := h.2 i a z
    refine ⟨q1, q2, q3, q4, fun w => ?_⟩
    rw [hc (i + 1) (by omega) w]
    by_cases z2 : i + 1 < n
    · rw [exf_lo z2]; exact q5 z2
    · rw [exf_hi (by omega)]
      have e : i = n - 1 := by omega
      subst e
      rcases hp with ⟨y1, y2⟩ | ⟨y1, y2, y3⟩ <;> omega
  · rw [exf_hi (by omega), exf_hi (by omega), exf_hi (by omega)]
    refine ⟨hx, by omega, ?_, fun w => ?_, fun w => ?_⟩
    · rcases hp with ⟨y1, y2⟩ | ⟨y1, y2, y3⟩ <;> omega
    · rcases hp with ⟨y1, y2⟩ | ⟨y1, y2, y3⟩ <;> omega
    · rw [hc (i + 1) (by omega) w, exf_hi (by omega)]
      omega
theorem okM_exf {g m n v a b m2 n2 : Int} {L R A B : Int → Int} (h : okM g L R m n) (hv : 0 ≤ v) (hab : (a = 1 ∧ b = 0 ∧ m2 = m + v ∧ n2 = n) ∨ (a = 0 ∧ b = 1 ∧ m2 = m ∧ n2 = n + v)) (hmn : m2 ≤ 60 ∧ n2 ≤ 60) (hA : ∀ i, 0 ≤ i → i < g + v → A i = exf L g a i) (hB : ∀ i, 0 ≤ i → i < g + v → B i = exf R g b i) : okM (g + v) A B m2 n2 := by
  have h0 := h.1
  have e1 : Sm A (g + v) = Sm (exf L g a) (g + v) := Sm_congr (by omega) hA
  have e2 : Sm B (g + v) = Sm (exf R g b) (g + v) := Sm_congr (by omega) hB
  rw [Sm_exf h0.1 hv, h.2.2.1] at e1
  rw [Sm_exf h0.1 hv, h.2.2.2] at e2
  refine okM_mk (by omega) (fun i p q => ?_) (e1.trans ?_) (e2.trans ?_) hmn
  · rw [hA i p q, hB i p q]
    by_cases z : i < g
    · rw [exf_lo z, exf_lo z]
      have := h.2.1 i p z
      omega
    · rw [exf_hi (by omega), exf_hi (by omega)]
      omega
  · rcases hab with ⟨z1, z2, z3, z4⟩ | ⟨z1, z2, z3, z4⟩
    · rw [z1, z3, Int.one_mul]
    · rw [z1, z3, Int.zero_mul, Int.add_zero]
  · rcases hab with ⟨z1, z2, z3, z4⟩ | ⟨z1, z2, z3, z4⟩
    · rw [z2, z4, Int.zero_mul, Int.add_zero]
    · rw [z2, z4, Int.one_mul]
theorem rA_own {X W : Int → Int} {b n g x ch v : Int} {c l o c2 l2 o2 : Int → Int} (hb : 0 ≤ b ∧ b ≤ 1) (hn : 0 ≤ n ∧ 1 ≤ v ∧ n + v ≤ 60) (hg : 0 ≤ g ∧ g + v ≤ 120) (r : rA X W b n g x ch v) (rb : rB W b n c l o) (hc : ∀ i, 0 ≤ i → i < n + v → c2 i = exf c n ch i) (hl : ∀ i, 0 ≤ i → i < n + v → l2 i = exf l n x i) (ho : ∀ i, 0 ≤ i → i < n + v → o2 i = exf o n 0 i) : rB X b (n + v) c2 l2 o2 := by
  obtain ⟨r1, r2, r3, r4, r5, r6⟩ := r
  have hb2 : b = 0 ∨ b = 1 := by omega
  refine ⟨r1, ?_, fun i p q => ?_⟩
  · rw [r2, at0_in (by omega), hc _ (by omega) (by omega), exf_hi (by omega)]
  · rw [hc i p q, hl i p q, ho i p q]
    by_cases z : i < n
    · rw [exf_lo z, exf_lo z, exf_lo z, r6 _ (by omega) (by omega) (by omega) (by omega) (by omega) (by omega) (by omega) (by omega), r6 _ (by omega) (by omega) (by omega) (by omega) (by omega) (by omega) (by omega) (by omega), r6 _ (by omega) (by omega) (by omega) (by omega) (by omega) (by omega) (by omega) (by omega)]
      exact rb.2.2 i p z
    · rw [exf_hi (by omega), exf_hi (by omega), exf_hi (by omega)]
      exact r4 i (by omega) q
theorem rA_oth {X W : Int → Int} {b d n m g x ch v : Int} {c l o : Int → Int} (hb : (b = 0 ∧ d = 1) ∨ (b = 1 ∧ d = 0)) (hn : 0 ≤ n ∧ 1 ≤ v ∧ n + v ≤ 60) (hg : 0 ≤ g ∧ g + v ≤ 120) (hm : m ≤ 60) (r : rA X W b n g x ch v) (rb : rB W d m c l o) : rB X d m c l o := by
  obtain ⟨r1, r2, r3, r4, r5, r6⟩ := r
  refine rb.keep hm (r6 _ (by omega) (by omega) (by omega) (by omega) (by omega) (by omega) (by omega) (by omega)) (r6 _ (by omega) (by omega) (by omega) (by omega) (by omega) (by omega) (by omega) (by omega)) (fun i p q => ⟨r6 _ (by omega) (by omega) (by omega) (by omega) (by omega) (by omega) (by omega) (by omega), r6 _ (by omega) (by omega) (by omega) (by omega) (by omega) (by omega) (by omega) (by omega), r6 _ (by omega) (by omega) (by omega) (by omega) (by omega) (by omega) (by omega) (by omega)⟩)
theorem rA_map {X W : Int → Int} {b n g x ch v : Int} {L R A B : Int → Int} (hb : 0 ≤ b ∧ b ≤ 1) (hn : 0 ≤ n ∧ 1 ≤ v ∧ n + v ≤ 60) (hg : 0 ≤ g ∧ g + v ≤ 120) (r : rA X W b n g x ch v) (rm : rM W g L R) (hA : ∀ i, 0 ≤ i → i < g + v → A i = exf L g (1 - b) i) (hB : ∀ i, 0 ≤ i → i < g + v → B i = exf R g b i) : rM X (g + v) A B := by
  obtain ⟨r1, r2, r3, r4, r5, r6⟩ := r
  refine ⟨r3, fun i p q => ?_⟩
  rw [hA i p q, hB i p q]
  by_cases z : i < g
  · rw [exf_lo z, exf_lo z, r6 _ (by omega) (by omega) (by omega) (by omega) (by omega) (by omega) (by omega) (by omega), r6 _ (by omega) (by omega) (by omega) (by omega) (by omega) (by omega) (by omega) (by omega)]
    exact rm.2 i p z
  · rw [exf_hi (by omega), exf_hi (by omega)]
    exact r5 i (by omega) q
theorem rA_0 {W : Int → Int} {b n g x ch : Int} (hb : 0 ≤ b ∧ b ≤ 1) (w1 : W (360 + b) = n) (w3 : W 364 = g) : rA (up W (362 + b) ch) W b n g x ch 0 := by
  refine ⟨by rw [up_ne (by omega), w1]; omega, up_at rfl, by rw [up_ne (by omega), w3]; omega, fun i p q => by omega, fun i p q => by omega, fun i p1 p2 p3 _ _ _ _ _ => up_ne p2⟩
section ACT5
variable {k : Int} {s0 s1 s2 s3 s4 : vST} {V W : Int → Int} {vL0 vL1 vL2 : Nat → Int32} {vL3 : Int32} {vR0 vR1 vR2 : Nat → Int32} {vR3 : Int32} {vM0 vM1 : Nat → Int32} {vM2 : Int32}
end ACT5

-- out of 48.fsplit
-- verses split and joined: rows with a value put in, or one taken out
def ins (F : Int → Int) (a y : Int) : Int → Int := fun i => if i ≤ a then F i else if i = a + 1 then y else F (i - 1)
def rmv (F : Int → Int) (a : Int) : Int → Int := fun i => if i ≤ a then F i else F (i + 1)
theorem ins_lo {F : Int → Int} {a y i : Int} (h : i ≤ a) : ins F a y i = F i := if_pos h
theorem ins_at {F : Int → Int} {a y i : Int} (h : i = a + 1) : ins F a y i = y := by unfold ins; rw [if_neg (by omega), if_pos h]
theorem ins_hi {F : Int → Int} {a y i : Int} (h : a + 1 < i) : ins F a y i = F (i - 1) := by unfold ins; rw [if_neg (by omega), if_neg (by omega)]
theorem rmv_lo {F : Int → Int} {a i : Int} (h : i ≤ a) : rmv F a i = F i := if_pos h
theorem rmv_hi {F : Int → Int} {a i : Int} (h : a < i) : rmv F a i = F (i + 1) := if_neg (by omega)
theorem ins_class {F : Int → Int} {a y n i : Int} (h : 0 ≤ a ∧ a < n ∧ n < 60) (hi : 0 ≤ i ∧ i < n + 1) : up (opn F 60 (a + 1) n) (a + 1) y i = ins F a y i := by
  by_cases z : i = a + 1
  · rw [up_at z, ins_at z]
  · rw [up_ne z]
    unfold opn cpy
    rw [if_pos (by omega)]
    by_cases z2 : i ≤ a
    · rw [ins_lo z2]; exact if_neg (by omega)
    · rw [ins_hi (by omega)]
      show (if a + 1 + 1 ≤ i ∧ i < a + 1 + 1 + (n - (a + 1)) then F (a + 1 + (i - (a + 1 + 1))) else F i) = F (i - 1)
      rw [if_pos (by omega), show a + 1 + (i - (a + 1 + 1)) = i - 1 by omega]
theorem rmv_class {F : Int → Int} {a n i : Int} (h : 0 ≤ a ∧ a + 1 < n ∧ n ≤ 60) (hi : 0 ≤ i ∧ i < n - 1) : cls F 60 (a + 1) 1 n i = rmv F a i := by
  unfold cls cpy
  rw [if_pos (by omega)]
  by_cases z : i ≤ a
  · rw [rmv_lo z]; exact if_neg (by omega)
  · rw [rmv_hi (by omega)]
    show (if a + 1 ≤ i ∧ i < a + 1 + (n - (a + 1) - 1) then F (a + 1 + 1 + (i - (a + 1))) else F i) = F (i + 1)
    rw [if_pos (by omega), show a + 1 + 1 + (i - (a + 1)) = i + 1 by omega]
def cpv (X : Int → Int) (i j : Int) : Int → Int := up (up (up X j (X i)) (120 + j) (X (120 + i))) (240 + j) (X (240 + i))
theorem cpv_at {X : Int → Int} {i j : Int} (h : (0 ≤ i ∧ i < 120) ∧ 0 ≤ j ∧ j < 120) : cpv X i j j = X i ∧ cpv X i j (120 + j) = X (120 + i) ∧ cpv X i j (240 + j) = X (240 + i) := by
  unfold cpv
  refine ⟨?_, ?_, ?_⟩
  · rw [up_ne (by omega), up_ne (by omega), up_at rfl]
  · rw [up_ne (by omega), up_at rfl]
  · rw [up_at rfl]
theorem cpv_ne {X : Int → Int} {i j m : Int} (h : ¬ m = j ∧ ¬ m = 120 + j ∧ ¬ m = 240 + j) : cpv X i j m = X m := by
  unfold cpv
  rw [up_ne h.2.2, up_ne h.2.1, up_ne h.1]
-- what the row says of the verses of book b, all else as in W
def rV (X W : Int → Int) (b n : Int) (c l o : Int → Int) : Prop := (∀ i, 0 ≤ i → i < n → X (60 * b + i) = l i ∧ X (120 + 60 * b + i) = o i ∧ X (240 + 60 * b + i) = c i) ∧ ∀ i, ¬ (60 * b ≤ i ∧ i < 60 * b + 60) → ¬ (120 + 60 * b ≤ i ∧ i < 120 + 60 * b + 60) → ¬ (240 + 60 * b ≤ i ∧ i < 240 + 60 * b + 60) → X i = W i
-- the sizes of a group changed
def upS (X : Int → Int) (b j d : Int) : Int → Int := up X ((if b = 0 then 365 else 485) + j) (X ((if b = 0 then 365 else 485) + j) + d)
theorem rM_upS {X : Int → Int} {b j d g : Int} {L R : Int → Int} (hb : 0 ≤ b ∧ b ≤ 1) (hg : 0 ≤ g ∧ g ≤ 120) (hj : 0 ≤ j ∧ j < g) (r : rM X g L R) : rM (upS X b j d) g (if b = 0 then dlt L j d else L) (if b = 0 then R else dlt R j d) := by
  unfold upS
  have h := r.2 j hj.1 hj.2
  by_cases q : b = 0
  · rw [if_pos q, if_pos q, if_pos q]
    refine ⟨by rw [up_ne (by omega)]; exact r.1, fun i x y => ?_⟩
    have h2 := r.2 i x y
    by_cases z : i = j
    · rw [z, up_at rfl, up_ne (by omega), h.1, h.2]
      exact ⟨(if_pos rfl).symm, rfl⟩
    · rw [up_ne (by omega), up_ne (by omega), h2.1, h2.2]
      exact ⟨(if_neg z).symm, rfl⟩
  · rw [if_neg q, if_neg q, if_neg q]
    refine ⟨by rw [up_ne (by omega)]; exact r.1, fun i x y => ?_⟩
    have h2 := r.2 i x y
    by_cases z : i = j
    · rw [z, up_at rfl, up_ne (by omega), h.1, h.2]
      exact ⟨rfl, (if_pos rfl).symm⟩
    · rw [up_ne (by omega), up_ne (by omega), h2.1, h2.2]
      exact ⟨rfl, (if_neg z).symm⟩
theorem okM_dlt {g m n j d b m2 n2 : Int} {L R : Int → Int} (h : okM g L R m n) (hj : 0 ≤ j ∧ j < g) (hm : m2 = (if b = 0 then m + d else m)) (hn : n2 = if b = 0 then n else n + d) (hmn : m2 ≤ 60 ∧ n2 ≤ 60) (h1 : 0 ≤ sel b L R j + d ∧ 1 ≤ L j + R j + d) : okM g (if b = 0 then dlt L j d else L) (if b = 0 then R else dlt R j d) m2 n2 := by
  unfold sel at h1
  by_cases q : b = 0
  · rw [if_pos q] at hm hn h1 ⊢
    rw [if_pos q]
    refine okM_mk h.1.1 (fun i x y => ?_) ((Sm_dlt hj).trans (by rw [h.2.2.1]; exact hm.symm)) (h.2.2.2.trans hn.symm) hmn
    have h2 := h.2.1 i x y
    unfold dlt
    by_cases z : i = j
    · rw [if_pos z, z]
      rw [z] at h2
      omega
    · rw [if_neg z]; omega
  · rw [if_neg q] at hm hn h1 ⊢
    rw [if_neg q]
    refine okM_mk h.1.1 (fun i x y => ?_) (h.2.2.1.trans hm.symm) ((Sm_dlt hj).trans (by rw [h.2.2.2]; exact hn.symm)) hmn
    have h2 := h.2.1 i x y
    unfold dlt
    by_cases z : i = j
    · rw [if_pos z, z]
      rw [z] at h2
      omega
    · rw [if_neg z]; omega
-- the reference splits: its loop
-- out of 49.fjoin
-- the reference joins: its loop
-- books split, joined
theorem okB_ins {n v x : Int} {c l o c2 l2 o2 : Int → Int} (h : okB n c l o) (hv : 0 ≤ v ∧ v < n ∧ n < 60) (hx : 1 ≤ x ∧ x < l v) (hc : ∀ i, 0 ≤ i → i < n + 1 → c2 i = ins c v (c v) i) (hl : ∀ i, 0 ≤ i → i < n + 1 → l2 i = ins (up l v x) v (l v - x) i) (ho : ∀ i, 0 ≤ i → i < n + 1 → o2 i = ins o v 0 i) : okB (n + 1) c2 l2 o2 := by
  have hvv := h.2 v hv.1 hv.2.1
  refine ⟨by omega, fun i a b => ?_⟩
  rw [hc i a b, hl i a b, ho i a b]
  by_cases z1 : i ≤ v
  · have hi := h.2 i a (by omega)
    rw [ins_lo z1, ins_lo z1, ins_lo z1]
    refine ⟨?_, hi.2.1, hi.2.2.1, hi.2.2.2.1, fun w => ?_⟩
    · by_cases z2 : i = v
      · rw [up_at z2]; omega
      · rw [up_ne z2]; exact hi.1
    · rw [hc _ (by omega) w]
      by_cases z2 : i = v
      · rw [ins_at (by omega), z2]; omega
      · rw [ins_lo (by omega)]
        exact hi.2.2.2.2 (by omega)
  · by_cases z2 : i = v + 1
    · rw [ins_at z2, ins_at z2, ins_at z2]
      refine ⟨by omega, by omega, hvv.2.2.1, fun w => by omega, fun w => ?_⟩
      rw [hc _ (by omega) w, ins_hi (by omega), show i + 1 - 1 = v + 1 by omega]
      exact hvv.2.2.2.2 (by omega)
    · have hi := h.2 (i - 1) (by omega) (by omega)
      rw [ins_hi (by omega), ins_hi (by omega), ins_hi (by omega), up_ne (by omega)]
      refine ⟨hi.1, hi.2.1, hi.2.2.1, fun w => by omega, fun w => ?_⟩
      rw [hc _ (by omega) w, ins_hi (by omega), show i + 1 - 1 = i - 1 + 1 by omega]
      exact hi.2.2.2.2 (by omega)
theorem okB_rmv {n v x y : Int} {c l o c2 l2 o2 : Int → Int} (h : okB n c l o) (hv : 0 ≤ v ∧ v + 1 < n) (hx : 1 ≤ x ∧ x ≤ 2000) (hy : 0 ≤ y ∧ y ≤ 10) (he : c v = c (v + 1)) (hc : ∀ i, 0 ≤ i → i < n - 1 → c2 i = rmv c v i) (hl : ∀ i, 0 ≤ i → i < n - 1 → l2 i = rmv (up l v x) v i) (ho : ∀ i, 0 ≤ i → i < n - 1 → o2 i = rmv (up o v y) v i) : okB (n - 1) c2 l2 o2 := by
  have h0 := h.1
  refine ⟨by omega, fun i a b => ?_⟩
  rw [hc i a b, hl i a b, ho i a b]
  by_cases z1 : i ≤ v
  · have hi := h.2 i a (by omega)
    rw [rmv_lo z1, rmv_lo z1, rmv_lo z1]
    refine ⟨?_, ?_, hi.2.2.1, hi.2.2.2.1, fun w => ?_⟩
    · by_cases z2 : i = v
      · rw [up_at z2]; exact hx
      · rw [up_ne z2]; exact hi.1
    · by_cases z2 : i = v
      · rw [up_at z2]; exact hy
      · rw [up_ne z2]; exact hi.2.1
    · rw [hc _ (by omega) w]
      by_cases z2 : i = v
      · have h4 := (h.2 (v + 1) (by omega) (by omega)).2.2.2.2 (by omega)
        rw [rmv_hi (by omega), z2, he]
        exact h4
      · rw [rmv_lo (by omega)]
        exact hi.2.2.2.2 (by omega)
  · have hi := h.2 (i + 1) (by omega) (by omega)
    rw [rmv_hi (by omega), rmv_hi (by omega), rmv_hi (by omega), up_ne (by omega), up_ne (by omega)]
    refine ⟨hi.1, hi.2.1, hi.2.2.1, fun w => by omega, fun w => ?_⟩
    rw [hc _ (by omega) w, rmv_hi (by omega)]
    exact hi.2.2.2.2 (by omega)
-- out of what the row says of the verses
theorem rV.own {X Y W : Int → Int} {b n t : Int} {c l o c2 l2 o2 : Int → Int} (hb : 0 ≤ b ∧ b ≤ 1) (hn : 0 < n ∧ n ≤ 60) (r : rV Y W b n c l o) (hX : ∀ i, i < 360 → X i = Y i) (h1 : X (360 + b) = n) (h2 : X (362 + b) = t) (ht : t = c (n - 1)) (hc : ∀ i, 0 ≤ i → i < n → c2 i = c i) (hl : ∀ i, 0 ≤ i → i < n → l2 i = l i) (ho : ∀ i, 0 ≤ i → i < n → o2 i = o i) : rB X b n c2 l2 o2 := by
  refine ⟨h1, ?_, fun i p q => ?_⟩
  · rw [h2, at0_in (by omega), hc _ (by omega) (by omega)]; exact ht
  · rw [hX _ (by omega), hX _ (by omega), hX _ (by omega), hc i p q, hl i p q, ho i p q]
    exact r.1 i p q
theorem rV.oth {X Y W : Int → Int} {b d n m : Int} {c l o c2 l2 o2 : Int → Int} (hb : (b = 0 ∧ d = 1) ∨ (b = 1 ∧ d = 0)) (hm : m ≤ 60) (r : rV Y W b n c l o) (hX : ∀ i, i < 364 → ¬ i = 360 + b → X i = Y i) (rb : rB W d m c2 l2 o2) : rB X d m c2 l2 o2 :=
  rb.keep hm (by rw [hX _ (by omega) (by omega)]; exact r.2 _ (by omega) (by omega) (by omega)) (by rw [hX _ (by omega) (by omega)]; exact r.2 _ (by omega) (by omega) (by omega)) (fun i p q => ⟨by rw [hX _ (by omega) (by omega)]; exact r.2 _ (by omega) (by omega) (by omega), by rw [hX _ (by omega) (by omega)]; exact r.2 _ (by omega) (by omega) (by omega), by rw [hX _ (by omega) (by omega)]; exact r.2 _ (by omega) (by omega) (by omega)⟩)
theorem rV.map {Y W : Int → Int} {b n g : Int} {c l o L R : Int → Int} (hb : 0 ≤ b ∧ b ≤ 1) (hg : g ≤ 120) (r : rV Y W b n c l o) (rm : rM W g L R) : rM Y g L R := rm.keep hg (fun i p q => r.2 i (by omega) (by omega) (by omega))
theorem upS_lo {X : Int → Int} {b j d i : Int} (hj : 0 ≤ j) (hi : i < 364) : upS X b j d i = X i := by
  unfold upS
  by_cases q : b = 0
  · rw [if_pos q, up_ne (by omega)]
  · rw [if_neg q, up_ne (by omega)]
-- the class: a group's size
theorem f1_resizeB {L R : Int → Int} {g a b d : Int} (h : (0 ≤ g ∧ g ≤ 120) ∧ (0 ≤ a ∧ a < g) ∧ 0 ≤ b ∧ b ≤ 1) : ∃ L2 R2 : Int → Int, (∀ i, 0 ≤ i → i < g → L2 i = (if b = 0 then dlt L a d else L) i ∧ R2 i = (if b = 0 then R else dlt R a d) i) ∧ pX1_resize (cz L) (cz R) (I g) (I a) (I b) (I d) = some (cz L2, cz R2) := by
  refine ⟨_, _, fun i x y => ?_, f1_resize h⟩
  have hb2 : b = 0 ∨ b = 1 := by omega
  rcases hb2 with rfl | rfl
  · rw [if_pos rfl, if_pos rfl, if_pos rfl, if_neg (by omega)]
    unfold dlt
    by_cases z : i = a
    · rw [up_at z, up_at z, if_pos z, z]
      exact ⟨rfl, by omega⟩
    · rw [up_ne z, up_ne z, if_neg z]
      exact ⟨rfl, rfl⟩
  · have z0 : ¬ (1 : Int) = 0 := by omega
    simp only [if_neg z0, if_pos (rfl : (1 : Int) = 1)]
    unfold dlt
    by_cases z : i = a
    · rw [up_at z, up_at z, if_pos z, z]
      exact ⟨by omega, rfl⟩
    · rw [up_ne z, up_ne z, if_neg z]
      exact ⟨rfl, rfl⟩

-- out of 50.fact6
-- both sides split alike
theorem sel_if (b : Int) (L R : Int → Int) : sel b L R = if b = 0 then L else R := rfl
section ACT6
variable {k : Int} {s0 s1 s2 s3 s4 : vST} {V W : Int → Int} {vL0 vL1 vL2 : Nat → Int32} {vL3 : Int32} {vR0 vR1 vR2 : Nat → Int32} {vR3 : Int32} {vM0 vM1 : Nat → Int32} {vM2 : Int32}
end ACT6

-- out of 52.fact8
-- verses joined: both sides alike
theorem rB.valB {Y : Int → Int} {b n : Int} {c l o c2 l2 o2 : Int → Int} (r : rB Y b n c l o) (hn : 0 < n) (hc : ∀ i, 0 ≤ i → i < n → c2 i = c i) (hl : ∀ i, 0 ≤ i → i < n → l2 i = l i) (ho : ∀ i, 0 ≤ i → i < n → o2 i = o i) : rB Y b n c2 l2 o2 := by
  refine ⟨r.1, ?_, fun i p q => ?_⟩
  · rw [r.2.1, at0_in (by omega), at0_in (by omega), hc _ (by omega) (by omega)]
  · rw [hc i p q, hl i p q, ho i p q]
    exact r.2.2 i p q
section ACT7
variable {k : Int} {s0 s1 s2 s3 s4 : vST} {V W : Int → Int} {vL0 vL1 vL2 : Nat → Int32} {vL3 : Int32} {vR0 vR1 vR2 : Nat → Int32} {vR3 : Int32} {vM0 vM1 : Nat → Int32} {vM2 : Int32}
end ACT7

-- out of 53.fask1
-- what is set and asked: both sides alike
def rW (y0 y1 : Int32) (w : Int → Int) : Prop := y0 = I (wdt w 0) ∧ y1 = I (wdt w 1) ∧ (w 0 = 0 ∨ 10 ≤ w 0 ∧ w 0 ≤ 200) ∧ (w 1 = 0 ∨ 10 ≤ w 1 ∧ w 1 ≤ 200)
theorem rW.bd {y0 y1 : Int32} {w : Int → Int} (h : rW y0 y1 w) : ((-100000 ≤ w 0 ∧ w 0 ≤ 100000) ∧ -100000 ≤ w 1 ∧ w 1 ≤ 100000) ∧ (1 ≤ wdt w 0 ∧ wdt w 0 ≤ 200) ∧ 1 ≤ wdt w 1 ∧ wdt w 1 ≤ 200 := by
  obtain ⟨_, _, h0, h1⟩ := h
  unfold wdt
  refine ⟨by omega, ?_, ?_⟩ <;> split <;> omega
def rZ (y2 y3 d6 d7 : Int32) (ph h : Int) : Prop := y2 = I ph ∧ d6 = I ph ∧ y3 = I h ∧ d7 = I h ∧ (5 ≤ ph ∧ ph ≤ 200) ∧ 0 ≤ h ∧ h ≤ 5
def rT (t0 : Nat → Int32) (t1 d3 : Int32) (d4 : Nat → Int32) : Prop := ∃ (S S2 : Int → Int) (n : Int), t0 = cz S ∧ t1 = I n ∧ d3 = I n ∧ d4 = cz S2 ∧ (0 ≤ n ∧ n ≤ 80) ∧ ∀ i, 0 ≤ i → i < n → S i = S2 i ∧ 0 ≤ S2 i ∧ S2 i ≤ 65535
section ASK1
variable {W : Int → Int} {vL0 vL1 vL2 : Nat → Int32} {vL3 : Int32} {vR0 vR1 vR2 : Nat → Int32} {vR3 : Int32} {vM0 vM1 : Nat → Int32} {vM2 : Int32}
end ASK1

-- out of 54.fask2
-- chapters and verses asked: both sides alike
theorem okB_hit {n x : Int} {c l o : Int → Int} (h : okB n c l o) (hx : 1 ≤ x ∧ x ≤ at0 c n (n - 1)) : ∃ i, 0 ≤ i ∧ i < n ∧ c i = x := by
  by_cases q : 0 < n
  · have key : ∀ k, 0 ≤ k → k < n → x ≤ c k → ∃ i, 0 ≤ i ∧ i < n ∧ c i = x := by
      intro k hk
      refine zind (P := fun k => k < n → x ≤ c k → ∃ i, 0 ≤ i ∧ i < n ∧ c i = x) (fun h1 h2 => ?_) (fun k hk ih h1 h2 => ?_) k hk
      · have := (h.2 0 (by omega) h1).2.2.2.1 rfl
        exact ⟨0, by omega, h1, by omega⟩
      · by_cases z : c (k + 1) = x
        · exact ⟨k + 1, by omega, h1, z⟩
        · have := (h.2 k hk (by omega)).2.2.2.2 h1
          exact ih (by omega) (by omega)
    rw [at0_in (by omega)] at hx
    exact key (n - 1) (by omega) (by omega) hx.2
  · rw [at0_out (by omega)] at hx
    omega
section ASK2
variable {W : Int → Int} {vL0 vL1 vL2 : Nat → Int32} {vL3 : Int32} {vR0 vR1 vR2 : Nat → Int32} {vR3 : Int32} {vM0 vM1 : Nat → Int32} {vM2 : Int32}
end ASK2

-- out of 59.fpage2
-- a page asked: both sides alike
theorem if01 {C : Prop} [Decidable C] {α : Type} {x : α} : (if I (if C then 0 else 1) = I 0 then some (I 0, x) else some (I 1, x)) = some (I (if C then 0 else 1), x) := by
  by_cases z : C
  · rw [if_pos z]; exact if_pos rfl
  · rw [if_neg z]; exact if_neg (by decide)
section ASK4
variable {W : Int → Int} {vL0 vL1 vL2 : Nat → Int32} {vL3 : Int32} {vR0 vR1 vR2 : Nat → Int32} {vR3 : Int32} {vM0 vM1 : Nat → Int32} {vM2 : Int32} {y0 y1 y2 y3 d6 d7 : Int32} {w : Int → Int} {ph h : Int}
end ASK4

-- out of 61.fgroup
-- a group asked: both sides alike
theorem f9_fvn {L R : Int → Int} {g a b : Int} (h : (0 ≤ g ∧ g ≤ 120) ∧ (0 ≤ a ∧ a < g) ∧ 0 ≤ b ∧ b ≤ 1) (hb : 0 ≤ sel b L R a ∧ sel b L R a ≤ 1000) : pX9_firstVerseOrNone (cz L) (cz R) (I g) (I a) (I b) = some (I (if sel b L R a = 0 then -5 else Sm (sel b L R) a)) := by
  unfold pX9_firstVerseOrNone
  rw [f1_sizeOf (by omega), f1_firstOf (by omega), at0_in h.2.1]
  simp (disch := omega) only [if_true, if_false, I_add, I_sub, I_mul, I_neg, I_ofNat, Option.bind_some, kIn, I_l0, I_l1, I_l2, I_l3, I_l4, I_l5, I_l6, I_l7, I_l8, I_l9, I_l10, I_l11, I_l12, I_l13, I_l40, I_l43, I_l44, I_l45, I_l48, I_l57, I_l58, I_l60, I_l61, I_l62, I_l79, I_l80, I_l100, I_l101, I_l120, I_l200, I_l201, I_l1999, I_l2000, I_l2001, I_eq]
  by_cases z : sel b L R a = 0
  · rw [if_pos z, if_pos z]
  · rw [if_neg z, if_neg z]
section ASK6
variable {W : Int → Int} {vL0 vL1 vL2 : Nat → Int32} {vL3 : Int32} {vR0 vR1 vR2 : Nat → Int32} {vR3 : Int32} {vM0 vM1 : Nat → Int32} {vM2 : Int32} {y0 y1 y2 y3 d6 d7 : Int32} {w : Int → Int} {ph h : Int}
end ASK6

