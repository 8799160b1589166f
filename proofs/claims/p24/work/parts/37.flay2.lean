-- out of 37.flay2
-- what a group needs: the left and the right column, its height, its notes; G: a function of verses, S: the sizes
def ned (G S : Int → Int) (i : Int) : Int := Sm G (Sm S (i + 1)) - Sm G (Sm S i)
def mx (a b : Int) : Int := if a < b then b else a
def ab (x : Int) : Int := if 0 ≤ x then x else 0 - x
theorem ned_bd {G S : Int → Int} {g n i c : Int} (hS : ∀ i, 0 ≤ i → i < g → 0 ≤ S i) (hn : Sm S g = n) (hG : ∀ i, 0 ≤ i → i < n → 0 ≤ G i ∧ G i ≤ c) (hi : 0 ≤ i ∧ i < g) : 0 ≤ ned G S i ∧ ned G S i ≤ c * n := by
  have a1 := Sm_nn (F := S) hi.1 (fun j b1 b2 => hS j b1 (by omega))
  have a2 := Sm_mono (F := S) (m := i) (n := i + 1) (by omega) (by omega) (fun j b1 b2 => hS j (by omega) (by omega))
  have a3 := Sm_mono (F := S) (m := i + 1) (n := g) (by omega) (by omega) (fun j b1 b2 => hS j (by omega) (by omega))
  have a4 := Sm_mono (F := G) (m := Sm S i) (n := Sm S (i + 1)) (by omega) (by omega) (fun j b1 b2 => (hG j (by omega) (by omega)).1)
  have a5 := Sm_nn (F := G) (n := Sm S i) (by omega) (fun j b1 b2 => (hG j b1 (by omega)).1)
  have a6 := Sm_mono (F := G) (m := Sm S (i + 1)) (n := n) (by omega) (by omega) (fun j b1 b2 => (hG j (by omega) (by omega)).1)
  have a7 := Sm_hi (F := G) (n := n) (c := c) (by omega) (fun j b1 b2 => (hG j b1 b2).2)
  unfold ned
  omega
theorem mSel (b : Int) (L R : Int → Int) : (b = 0 → sel b L R = L) ∧ (¬ b = 0 → sel b L R = R) := ⟨sel_0, sel_1⟩
-- bounds out of okM
theorem okM_S {g m n b : Int} {L R : Int → Int} (h : okM g L R m n) : ∀ i, 0 ≤ i → i < g → 0 ≤ sel b L R i ∧ sel b L R i ≤ 60 := by
  intro i h0 h1
  have := h.2.1 i h0 h1
  unfold sel
  split <;> omega
theorem okM_n {g m n b : Int} {L R : Int → Int} (h : okM g L R m n) : Sm (sel b L R) g = if b = 0 then m else n := by
  unfold sel
  split
  · exact h.2.2.1
  · exact h.2.2.2
theorem sm_in {S : Int → Int} {g n i : Int} (hS : ∀ i, 0 ≤ i → i < g → 0 ≤ S i) (hn : Sm S g = n) (hi : 0 ≤ i ∧ i ≤ g) : 0 ≤ Sm S i ∧ Sm S i ≤ n := by
  have a1 := Sm_nn (F := S) hi.1 (fun j b1 b2 => hS j b1 (by omega))
  have a2 := Sm_mono (F := S) (m := i) (n := g) (by omega) (by omega) (fun j b1 b2 => hS j (by omega) (by omega))
  omega
-- all that the layout is made of: books 0 and 1, the map, widths, the heading
def Gln (c l : Int → Int) (w h : Int) : Int → Int := vln c l w h
def hgt (c0 l0 c1 l1 L R : Int → Int) (w0 w1 h : Int) (i : Int) : Int := mx (ned (vln c0 l0 w0 h) L i) (ned (vln c1 l1 w1 h) R i)
def nts (o0 o1 L R : Int → Int) (i : Int) : Int := ned o0 L i + ned o1 R i
def emp (c0 l0 c1 l1 L R : Int → Int) (w0 w1 h : Int) (i : Int) : Int := ab (ned (vln c0 l0 w0 h) L i - ned (vln c1 l1 w1 h) R i)
theorem okB_c {n : Int} {c l o : Int → Int} (h : okB n c l o) : ∀ i, 0 ≤ i → i < n → 1 ≤ c i ∧ c i ≤ 100000 := fun i a b => by have := (h.2 i a b).2.2.1; omega
theorem okB_c2 {n : Int} {c l o : Int → Int} (h : okB n c l o) : ∀ i, 0 ≤ i → i < n → -100000 ≤ c i ∧ c i ≤ 100000 := fun i a b => by have := (h.2 i a b).2.2.1; omega
theorem okB_l {n : Int} {c l o : Int → Int} (h : okB n c l o) : ∀ i, 0 ≤ i → i < n → 1 ≤ l i ∧ l i ≤ 2000 := fun i a b => (h.2 i a b).1
theorem okB_o {n : Int} {c l o : Int → Int} (h : okB n c l o) : ∀ i, 0 ≤ i → i < n → 0 ≤ o i ∧ o i ≤ 10 := fun i a b => (h.2 i a b).2.1
theorem ned_v {n g w h : Int} {c l o S : Int → Int} (hB : okB n c l o) (hS : ∀ i, 0 ≤ i → i < g → 0 ≤ S i) (hn : Sm S g = n) (hw : 1 ≤ w ∧ w ≤ 200) (hh : 0 ≤ h ∧ h ≤ 5) : ∀ i, 0 ≤ i → i < g → 0 ≤ ned (vln c l w h) S i ∧ ned (vln c l w h) S i ≤ 138000 := by
  intro i h0 h1
  have := ned_bd (G := vln c l w h) (c := 2300) hS hn (fun j a b => vln_bd hw hh (okB_l hB j a b)) ⟨h0, h1⟩
  have := hB.1
  omega
theorem ned_o {n g : Int} {c l o S : Int → Int} (hB : okB n c l o) (hS : ∀ i, 0 ≤ i → i < g → 0 ≤ S i) (hn : Sm S g = n) : ∀ i, 0 ≤ i → i < g → 0 ≤ ned o S i ∧ ned o S i ≤ 600 := by
  intro i h0 h1
  have := ned_bd (G := o) (c := 10) hS hn (fun j a b => okB_o hB j a b) ⟨h0, h1⟩
  have := hB.1
  omega
theorem I_mx {a b : Int} (h : (-1000000000 ≤ a ∧ a ≤ 1000000000) ∧ -1000000000 ≤ b ∧ b ≤ 1000000000) : (if I a < I b then I b else I a) = I (mx a b) := by
  have e : (I a < I b) = (a < b) := I_lt (by omega)
  simp only [e]
  unfold mx
  split <;> rfl
theorem I_ab {a : Int} (h : -1000000000 ≤ a ∧ a ≤ 1000000000) : (if I 0 ≤ I a then I a else I (0 - a)) = I (ab a) := by
  have e : (I 0 ≤ I a) = (0 ≤ a) := I_le (by omega)
  simp only [e]
  unfold ab
  split <;> rfl
theorem f0_linesN {c l o S : Int → Int} {n w h k : Int} (hB : okB n c l o) (hs : 0 ≤ Sm S k ∧ Sm S k ≤ Sm S (k + 1) ∧ Sm S (k + 1) ≤ n) (hw : 1 ≤ w ∧ w ≤ 200) (hh : 0 ≤ h ∧ h ≤ 5) : pX0_linesOf (cz c) (cz l) (I n) (I (Sm S k)) (I (Sm S (k + 1))) (I w) (I h) = some (I (ned (vln c l w h) S k)) := f0_linesOf ⟨hB.1, hs.1, hs.2.1, hs.2.2⟩ hw hh (okB_c hB) (okB_l hB)
theorem f0_notesN {c l o S : Int → Int} {n k : Int} (hB : okB n c l o) (hs : 0 ≤ Sm S k ∧ Sm S k ≤ Sm S (k + 1) ∧ Sm S (k + 1) ≤ n) : pX0_noteSumOf (cz o) (I n) (I (Sm S k)) (I (Sm S (k + 1))) = some (I (ned o S k)) := f0_noteSumOf ⟨hB.1, hs.1, hs.2.1, hs.2.2⟩
section LAY
variable {c0 l0 o0 c1 l1 o1 L R : Int → Int} {n0 n1 g w0 w1 h : Int}
theorem hgt_bd (hB0 : okB n0 c0 l0 o0) (hB1 : okB n1 c1 l1 o1) (hM : okM g L R n0 n1) (hw0 : 1 ≤ w0 ∧ w0 ≤ 200) (hw1 : 1 ≤ w1 ∧ w1 ≤ 200) (hh : 0 ≤ h ∧ h ≤ 5) : ∀ i, 0 ≤ i → i < g → 0 ≤ hgt c0 l0 c1 l1 L R w0 w1 h i ∧ hgt c0 l0 c1 l1 L R w0 w1 h i ≤ 1000000 := by
  intro i a b
  have e0 := ned_v hB0 (S := L) (fun i a b => (hM.2.1 i a b).1.1) hM.2.2.1 hw0 hh i a b
  have e1 := ned_v hB1 (S := R) (fun i a b => (hM.2.1 i a b).2.1.1) hM.2.2.2 hw1 hh i a b
  unfold hgt mx
  split <;> omega
theorem nts_bd (hB0 : okB n0 c0 l0 o0) (hB1 : okB n1 c1 l1 o1) (hM : okM g L R n0 n1) : ∀ i, 0 ≤ i → i < g → 0 ≤ nts o0 o1 L R i ∧ nts o0 o1 L R i ≤ 1000000 := by
  intro i a b
  have e0 := ned_o hB0 (S := L) (fun i a b => (hM.2.1 i a b).1.1) hM.2.2.1 i a b
  have e1 := ned_o hB1 (S := R) (fun i a b => (hM.2.1 i a b).2.1.1) hM.2.2.2 i a b
  unfold nts
  omega
theorem f3_measure_L (hB0 : okB n0 c0 l0 o0) (hB1 : okB n1 c1 l1 o1) (hM : okM g L R n0 n1) (hw0 : 1 ≤ w0 ∧ w0 ≤ 200) (hw1 : 1 ≤ w1 ∧ w1 ≤ 200) (hh : 0 ≤ h ∧ h ≤ 5) : ∀ (m : Nat) (hc nc : Int → Int) (em k : Int), 0 ≤ k → k ≤ g → g - k < m → (∀ j, 0 ≤ j → j < k → hc j = hgt c0 l0 c1 l1 L R w0 w1 h j ∧ nc j = nts o0 o1 L R j) → em = Sm (emp c0 l0 c1 l1 L R w0 w1 h) k → ∃ hc2 nc2 : Int → Int, (∀ j, 0 ≤ j → j < g → hc2 j = hgt c0 l0 c1 l1 L R w0 w1 h j ∧ nc2 j = nts o0 o1 L R j) ∧ pX3_measureGroups_L12 (I w0) (I w1) (I h) (I g) (cz c0) (cz l0) (cz o0) (I n0) (cz c1) (cz l1) (cz o1) (I n1) (cz L) (cz R) (I g) m (cz hc) (cz nc) (I em) (I (Sm L k)) (I (Sm R k)) (I k) = some (cz hc2, cz nc2, I (Sm (emp c0 l0 c1 l1 L R w0 w1 h) g)) := by
  intro m
  have hL : ∀ i, 0 ≤ i → i < g → 0 ≤ L i := fun i a b => (hM.2.1 i a b).1.1
  have hR : ∀ i, 0 ≤ i → i < g → 0 ≤ R i := fun i a b => (hM.2.1 i a b).2.1.1
  have hg := hM.1
  induction m with
  | zero => intro hc nc em k h0 h1 h2; omega
  | succ m ih =>
    intro hc nc em k k0 k1 k2 hj hem
    by_cases q : k = g
    · subst q
      refine ⟨hc, nc, hj, ?_⟩
      show pX3_measureGroups_bL12 _ _ _ _ _ _ _ _ _ _ _ _ _ _ _ _ _ _ _ _ _ _ = _
      unfold pX3_measureGroups_bL12
      simp (disch := omega) only [if_true, if_false, I_add, I_sub, I_mul, I_neg, I_ofNat, Option.bind_some, kIn, I_l0, I_l1, I_l2, I_l3, I_l4, I_l5, I_l6, I_l7, I_l8, I_l9, I_l10, I_l11, I_l12, I_l13, I_l40, I_l43, I_l44, I_l45, I_l48, I_l57, I_l58, I_l60, I_l61, I_l62, I_l79, I_l80, I_l100, I_l101, I_l120, I_l200, I_l201, I_l1999, I_l2000, I_l2001, I_le, if_pos]
      rw [hem]
    · have s0 := sm_in hL hM.2.2.1 (i := k) (by omega)
      have s1 := sm_in hR hM.2.2.2 (i := k) (by omega)
      have s2 := sm_in hL hM.2.2.1 (i := k + 1) (by omega)
      have s3 := sm_in hR hM.2.2.2 (i := k + 1) (by omega)
      have e0 : Sm L (k + 1) = Sm L k + L k := Sm_s k0
      have e1 : Sm R (k + 1) = Sm R k + R k := Sm_s k0
      have m0 := hL k k0 (by omega)
      have m1 := hR k k0 (by omega)
      have b0 := hB0.1
      have b1 := hB1.1
      have v0 := ned_v hB0 hL hM.2.2.1 hw0 hh k k0 (by omega)
      have v1 := ned_v hB1 hR hM.2.2.2 hw1 hh k k0 (by omega)
      obtain ⟨hc2, nc2, r1, r2⟩ := ih (up hc k (hgt c0 l0 c1 l1 L R w0 w1 h k)) (up nc k (nts o0 o1 L R k)) (em + emp c0 l0 c1 l1 L R w0 w1 h k) (k + 1) (by omega) (by omega) (by omega) (fun j j0 j1 => by
        by_cases q3 : j = k
        · subst q3
          rw [up_at rfl, up_at rfl]
          exact ⟨rfl, rfl⟩
        · rw [up_ne q3, up_ne q3]
          exact hj j j0 (by omega)) (by rw [hem, Sm_s k0])
      refine ⟨hc2, nc2, r1, ?_⟩
      show pX3_measureGroups_bL12 _ _ _ _ _ _ _ _ _ _ _ _ _ _ _ _ _ _ _ _ _ _ = _
      unfold pX3_measureGroups_bL12
      simp only [if_true, if_false, I_add, I_sub, I_mul, I_neg, I_ofNat, Option.bind_some, kIn, I_l0, I_l1, I_l2, I_l3, I_l4, I_l5, I_l6, I_l7, I_l8, I_l9, I_l10, I_l11, I_l12, I_l13, I_l40, I_l43, I_l44, I_l45, I_l48, I_l57, I_l58, I_l60, I_l61, I_l62, I_l79, I_l80, I_l100, I_l101, I_l120, I_l200, I_l201, I_l1999, I_l2000, I_l2001]
      rw [f1_sizeIn (by omega), f1_sizeIn (by omega), sel_0 rfl, sel_1 (by omega)]
      simp only [if_true, if_false, I_add, I_sub, I_mul, I_neg, I_ofNat, Option.bind_some, kIn, I_l0, I_l1, I_l2, I_l3, I_l4, I_l5, I_l6, I_l7, I_l8, I_l9, I_l10, I_l11, I_l12, I_l13, I_l40, I_l43, I_l44, I_l45, I_l48, I_l57, I_l58, I_l60, I_l61, I_l62, I_l79, I_l80, I_l100, I_l101, I_l120, I_l200, I_l201, I_l1999, I_l2000, I_l2001]
      rw [← e0, ← e1, f0_linesN hB0 (by omega) hw0 hh, f0_linesN hB1 (by omega) hw1 hh, f0_notesN hB0 (by omega), f0_notesN hB1 (by omega)]
      simp only [if_true, if_false, I_add, I_sub, I_mul, I_neg, I_ofNat, Option.bind_some, kIn, I_l0, I_l1, I_l2, I_l3, I_l4, I_l5, I_l6, I_l7, I_l8, I_l9, I_l10, I_l11, I_l12, I_l13, I_l40, I_l43, I_l44, I_l45, I_l48, I_l57, I_l58, I_l60, I_l61, I_l62, I_l79, I_l80, I_l100, I_l101, I_l120, I_l200, I_l201, I_l1999, I_l2000, I_l2001]
      rw [I_mx (by omega), I_ab (by omega)]
      simp (disch := omega) only [if_true, if_false, I_add, I_sub, I_mul, I_neg, I_ofNat, Option.bind_some, kIn, I_l0, I_l1, I_l2, I_l3, I_l4, I_l5, I_l6, I_l7, I_l8, I_l9, I_l10, I_l11, I_l12, I_l13, I_l40, I_l43, I_l44, I_l45, I_l48, I_l57, I_l58, I_l60, I_l61, I_l62, I_l79, I_l80, I_l100, I_l101, I_l120, I_l200, I_l201, I_l1999, I_l2000, I_l2001, I_le, I_toInt, if_neg, if_pos, cz_up]
      exact r2
end LAY

