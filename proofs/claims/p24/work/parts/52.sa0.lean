-- acts on the state: the state told in whole numbers (printed by wip/p24/fun/mk52.py)
def k5 (k : Int) : Int := if k < 5 then k + 1 else 5
theorem k5_bd {k : Int} (h : 0 ≤ k ∧ k ≤ 5) : 1 ≤ k5 k ∧ k5 k ≤ 5 := by unfold k5; split <;> omega
def hTp (h : vHs) (k : Int) (st : vST) : Prop := h.1 = I k ∧ ((k = 1 ∧ h.2.1 = st) ∨ (k = 2 ∧ h.2.2.1 = st) ∨ (k = 3 ∧ h.2.2.2.1 = st) ∨ (k = 4 ∧ h.2.2.2.2.1 = st) ∨ (k = 5 ∧ h.2.2.2.2.2 = st))
def vOk (st : vST) : Prop := ∃ (c0 l0 o0 : Int → Int) (n0 : Int) (c1 l1 o1 : Int → Int) (n1 : Int) (L R : Int → Int) (g : Int), st = ((cz c0, cz l0, cz o0, I n0), (cz c1, cz l1, cz o1, I n1), (cz L, cz R, I g)) ∧ okB n0 c0 l0 o0 ∧ okB n1 c1 l1 o1 ∧ okM g L R n0 n1
def hAll (h : vHs) (k : Int) : Prop := h.1 = I k ∧ (0 ≤ k ∧ k ≤ 5) ∧ (0 < k → vOk h.2.1) ∧ (1 < k → vOk h.2.2.1) ∧ (2 < k → vOk h.2.2.2.1) ∧ (3 < k → vOk h.2.2.2.2.1) ∧ (4 < k → vOk h.2.2.2.2.2)
theorem t_record {k : Int} {vL0 vL1 vL2 : Nat → Int32} {vL3 : Int32} {vR0 vR1 vR2 : Nat → Int32} {vR3 : Int32} {vM0 vM1 : Nat → Int32} {vM2 : Int32} {a : Int32} {s0 s1 s2 s3 s4 : vST} (hh : hAll (a, s0, s1, s2, s3, s4) k) (ho : vOk ((vL0, vL1, vL2, vL3), (vR0, vR1, vR2, vR3), (vM0, vM1, vM2))) : ∃ (r : Nat) (t0 t1 t2 t3 t4 : vST) (h : vHs), pX2_record a s0 s1 s2 s3 s4 vL0 vL1 vL2 vL3 vR0 vR1 vR2 vR3 vM0 vM1 vM2 = some (I (k5 k), r, t0, t1, t2, t3, t4) ∧ nH (I (k5 k)) r t0 t1 t2 t3 t4 = some h ∧ hTp h (k5 k) ((vL0, vL1, vL2, vL3), (vR0, vR1, vR2, vR3), (vM0, vM1, vM2)) ∧ hAll h (k5 k) := by
  obtain ⟨hk0, hk, h0, h1, h2, h3, h4⟩ := hh
  have hk1 : a = I k := hk0
  subst hk1
  have c : k = 0 ∨ k = 1 ∨ k = 2 ∨ k = 3 ∨ k = 4 ∨ k = 5 := by omega
  rcases c with rfl | rfl | rfl | rfl | rfl | rfl
  · exact ⟨0, _, _, _, _, _, _, rfl, rfl, ⟨rfl, Or.inl ⟨rfl, rfl⟩⟩, rfl, by decide, fun _ => ho, fun z => absurd z (by decide), fun z => absurd z (by decide), fun z => absurd z (by decide), fun z => absurd z (by decide)⟩
  · exact ⟨0, _, _, _, _, _, _, rfl, rfl, ⟨rfl, Or.inr (Or.inl ⟨rfl, rfl⟩)⟩, rfl, by decide, fun _ => h0 (by decide), fun _ => ho, fun z => absurd z (by decide), fun z => absurd z (by decide), fun z => absurd z (by decide)⟩
  · exact ⟨0, _, _, _, _, _, _, rfl, rfl, ⟨rfl, Or.inr (Or.inr (Or.inl ⟨rfl, rfl⟩))⟩, rfl, by decide, fun _ => h0 (by decide), fun _ => h1 (by decide), fun _ => ho, fun z => absurd z (by decide), fun z => absurd z (by decide)⟩
  · exact ⟨0, _, _, _, _, _, _, rfl, rfl, ⟨rfl, Or.inr (Or.inr (Or.inr (Or.inl ⟨rfl, rfl⟩)))⟩, rfl, by decide, fun _ => h0 (by decide), fun _ => h1 (by decide), fun _ => h2 (by decide), fun _ => ho, fun z => absurd z (by decide)⟩
  · exact ⟨0, _, _, _, _, _, _, rfl, rfl, ⟨rfl, Or.inr (Or.inr (Or.inr (Or.inr ⟨rfl, rfl⟩)))⟩, rfl, by decide, fun _ => h0 (by decide), fun _ => h1 (by decide), fun _ => h2 (by decide), fun _ => h3 (by decide), fun _ => ho⟩
  · exact ⟨1, _, _, _, _, _, _, rfl, rfl, ⟨rfl, Or.inr (Or.inr (Or.inr (Or.inr ⟨rfl, rfl⟩)))⟩, rfl, by decide, fun _ => h1 (by decide), fun _ => h2 (by decide), fun _ => h3 (by decide), fun _ => h4 (by decide), fun _ => ho⟩
def dX (x : Sg) (c0 l0 o0 : Int → Int) (n0 : Int) (c1 l1 o1 : Int → Int) (n1 : Int) (L R : Int → Int) (g k w0 w1 ph h : Int) : Prop := x.1 = ((cz c0, cz l0, cz o0, I n0), (cz c1, cz l1, cz o1, I n1), (cz L, cz R, I g)) ∧ x.2.2.2.2 = (I w0, I w1, I ph, I h) ∧ okB n0 c0 l0 o0 ∧ okB n1 c1 l1 o1 ∧ okM g L R n0 n1 ∧ hAll x.2.1 k ∧ (10 ≤ w0 ∧ w0 ≤ 200) ∧ (10 ≤ w1 ∧ w1 ≤ 200) ∧ (5 ≤ ph ∧ ph ≤ 200) ∧ 0 ≤ h ∧ h ≤ 5
def tX (x : Sg) (T : Int → Int) (t : Int) : Prop := x.2.2.1 = (cz T, I t) ∧ (0 ≤ t ∧ t ≤ 80) ∧ ∀ i, 0 ≤ i → i < t → 0 ≤ T i ∧ T i ≤ 65535
def iX (x : Sg) : Prop := (∃ (c0 l0 o0 : Int → Int) (n0 : Int) (c1 l1 o1 : Int → Int) (n1 : Int) (L R : Int → Int) (g k w0 w1 ph h : Int), dX x c0 l0 o0 n0 c1 l1 o1 n1 L R g k w0 w1 ph h) ∧ ∃ (T : Int → Int) (t : Int), tX x T t
