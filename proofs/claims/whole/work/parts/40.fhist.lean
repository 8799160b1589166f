-- a state of the class and a row of the reference
def rS (v : vST) (W : Int → Int) : Prop := ∃ (c0 l0 o0 : Int → Int) (n0 : Int) (c1 l1 o1 : Int → Int) (n1 : Int) (L R : Int → Int) (g : Int), v = ((cz c0, cz l0, cz o0, I n0), (cz c1, cz l1, cz o1, I n1), (cz L, cz R, I g)) ∧ okB n0 c0 l0 o0 ∧ okB n1 c1 l1 o1 ∧ okM g L R n0 n1 ∧ rB W 0 n0 c0 l0 o0 ∧ rB W 1 n1 c1 l1 o1 ∧ rM W g L R
theorem rB.congr {W V : Int → Int} {b n : Int} {c l o : Int → Int} (hb : 0 ≤ b ∧ b ≤ 1) (hn : n ≤ 60) (h : ∀ i, 0 ≤ i → i < 605 → V i = W i) (r : rB W b n c l o) : rB V b n c l o := by
  obtain ⟨r1, r2, r3⟩ := r
  refine ⟨by rw [h _ (by omega) (by omega)]; exact r1, by rw [h _ (by omega) (by omega)]; exact r2, fun i a b => ?_⟩
  obtain ⟨q1, q2, q3⟩ := r3 i a b
  exact ⟨by rw [h _ (by omega) (by omega)]; exact q1, by rw [h _ (by omega) (by omega)]; exact q2, by rw [h _ (by omega) (by omega)]; exact q3⟩
theorem rM.congr {W V : Int → Int} {g : Int} {L R : Int → Int} (hg : g ≤ 120) (h : ∀ i, 0 ≤ i → i < 605 → V i = W i) (r : rM W g L R) : rM V g L R := by
  obtain ⟨r1, r2⟩ := r
  refine ⟨by rw [h _ (by omega) (by omega)]; exact r1, fun i a b => ?_⟩
  obtain ⟨q1, q2⟩ := r2 i a b
  exact ⟨by rw [h _ (by omega) (by omega)]; exact q1, by rw [h _ (by omega) (by omega)]; exact q2⟩
theorem rS.congr {v : vST} {W V : Int → Int} (h : ∀ i, 0 ≤ i → i < 605 → V i = W i) (r : rS v W) : rS v V := by
  obtain ⟨c0, l0, o0, n0, c1, l1, o1, n1, L, R, g, e, k0, k1, kM, r0, r1, rm⟩ := r
  exact ⟨c0, l0, o0, n0, c1, l1, o1, n1, L, R, g, e, k0, k1, kM, r0.congr (by omega) k0.1.2 h, r1.congr (by omega) k1.1.2 h, rm.congr kM.1.2 h⟩
-- the history: k states, of which the first stands first in the reference's row of rows
def rH (k : Int) (s0 s1 s2 s3 s4 : vST) (V : Int → Int) : Prop := (0 ≤ k ∧ k ≤ 5) ∧ (0 < k → rS s0 V) ∧ (1 < k → rS s1 (fun i => V (605 + i))) ∧ (2 < k → rS s2 (fun i => V (1210 + i))) ∧ (3 < k → rS s3 (fun i => V (1815 + i))) ∧ (4 < k → rS s4 (fun i => V (2420 + i)))
def rHr (r : Nat) (k : Int) (s0 s1 s2 s3 s4 : vST) (V : Int → Int) : Prop := (r = 0 ∧ rH k s0 s1 s2 s3 s4 V) ∨ (r = 1 ∧ rH k s1 s2 s3 s4 s0 V)
-- the reference records: the copy, then the shift
theorem f10_recCopy {W : Int → Int} {k : Int} (hk : 0 ≤ k ∧ k < 5) : ∀ (m : Nat) (V : Int → Int) (i : Int), 0 ≤ i → i ≤ 605 → 605 - i < m → ∃ V2 : Int → Int, (∀ j, i ≤ j → j < 605 → V2 (605 * k + j) = W j) ∧ (∀ j, ¬ (605 * k + i ≤ j ∧ j < 605 * k + 605) → V2 j = V j) ∧ pX10_record_L56 (cz W) m (cz V) (I k) (I i) = some (cz V2, I (k + 1)) := by
  intro m
  induction m with
  | zero => intro V i h0 h1 h2; omega
  | succ m ih =>
    intro V i h0 h1 h2
    by_cases q : i = 605
    · subst q
      refine ⟨V, fun j a b => by omega, fun j _ => rfl, ?_⟩
      show pX10_record_bL56 _ _ _ _ _ = _
      unfold pX10_record_bL56
      simp (disch := omega) only [if_true, if_false, I_add, I_sub, I_mul, I_neg, I_ofNat, Option.bind_some, kIn, I_l0, I_l1, I_l2, I_l3, I_l4, I_l5, I_l6, I_l8, I_l9, I_l10, I_l11, I_l32, I_l40, I_l43, I_l44, I_l45, I_l48, I_l49, I_l57, I_l58, I_l60, I_l61, I_l62, I_l79, I_l80, I_l100, I_l120, I_l180, I_l200, I_l240, I_l300, I_l360, I_l361, I_l362, I_l363, I_l364, I_l365, I_l485, I_l605, I_l1999, I_l2000, I_le, if_pos]
    · obtain ⟨V2, t1, t2, t3⟩ := ih (up V (605 * k + i) (W i)) (i + 1) (by omega) (by omega) (by omega)
      refine ⟨V2, fun j a b => ?_, fun j hj => ?_, ?_⟩
      · by_cases z : j = i
        · rw [z, t2 _ (by omega), up_at rfl]
        · exact t1 j (by omega) b
      · rw [t2 j (by omega), up_ne (by omega)]
      · show pX10_record_bL56 _ _ _ _ _ = _
        unfold pX10_record_bL56
        simp (disch := omega) only [if_true, if_false, I_add, I_sub, I_mul, I_neg, I_ofNat, Option.bind_some, kIn, I_l0, I_l1, I_l2, I_l3, I_l4, I_l5, I_l6, I_l8, I_l9, I_l10, I_l11, I_l32, I_l40, I_l43, I_l44, I_l45, I_l48, I_l49, I_l57, I_l58, I_l60, I_l61, I_l62, I_l79, I_l80, I_l100, I_l120, I_l180, I_l200, I_l240, I_l300, I_l360, I_l361, I_l362, I_l363, I_l364, I_l365, I_l485, I_l605, I_l1999, I_l2000, I_le, I_lt, I_eq, I_toInt, cz_at, cz_up, if_pos, if_neg]
        exact t3
theorem f10_record {W V : Int → Int} {k : Int} (hk : 0 ≤ k ∧ k < 5) : ∃ V2 : Int → Int, (∀ j, 0 ≤ j → j < 605 → V2 (605 * k + j) = W j) ∧ (∀ j, 0 ≤ j → j < 605 * k → V2 j = V j) ∧ pX10_record (cz W) (cz V) (I k) = some (cz V2, I (k + 1)) := by
  obtain ⟨V2, t1, t2, t3⟩ := f10_recCopy (W := W) hk 4000 V 0 (by omega) (by omega) (by omega)
  refine ⟨V2, t1, fun j a b => t2 j (by omega), ?_⟩
  unfold pX10_record pX10_record_j54
  simp (disch := omega) only [if_true, if_false, I_add, I_sub, I_mul, I_neg, I_ofNat, Option.bind_some, kIn, I_l0, I_l1, I_l2, I_l3, I_l4, I_l5, I_l6, I_l8, I_l9, I_l10, I_l11, I_l32, I_l40, I_l43, I_l44, I_l45, I_l48, I_l49, I_l57, I_l58, I_l60, I_l61, I_l62, I_l79, I_l80, I_l100, I_l120, I_l180, I_l200, I_l240, I_l300, I_l360, I_l361, I_l362, I_l363, I_l364, I_l365, I_l485, I_l605, I_l1999, I_l2000, I_eq, if_neg]
  exact t3
theorem f10_recShift {W : Int → Int} : ∀ (m : Nat) (V : Int → Int) (i : Int), 0 ≤ i → i ≤ 2420 → 2420 - i < m → ∃ V2 : Int → Int, (∀ j, i ≤ j → j < 2420 → V2 j = V (j + 605)) ∧ (∀ j, j < i → V2 j = V j) ∧ pX10_record_L20 (cz W) m (cz V) (I 4) (I i) = pX10_record_j54 (cz W) (cz V2) (I 4) := by
  intro m
  induction m with
  | zero => intro V i h0 h1 h2; omega
  | succ m ih =>
    intro V i h0 h1 h2
    by_cases q : i = 2420
    · subst q
      refine ⟨V, fun j a b => by omega, fun j _ => rfl, ?_⟩
      show pX10_record_bL20 _ _ _ _ _ = _
      unfold pX10_record_bL20
      simp (disch := omega) only [if_true, if_false, I_add, I_sub, I_mul, I_neg, I_ofNat, Option.bind_some, kIn, I_l0, I_l1, I_l2, I_l3, I_l4, I_l5, I_l6, I_l8, I_l9, I_l10, I_l11, I_l32, I_l40, I_l43, I_l44, I_l45, I_l48, I_l49, I_l57, I_l58, I_l60, I_l61, I_l62, I_l79, I_l80, I_l100, I_l120, I_l180, I_l200, I_l240, I_l300, I_l360, I_l361, I_l362, I_l363, I_l364, I_l365, I_l485, I_l605, I_l1999, I_l2000, I_le, if_pos]
    · obtain ⟨V2, t1, t2, t3⟩ := ih (up V i (V (i + 605))) (i + 1) (by omega) (by omega) (by omega)
      refine ⟨V2, fun j a b => ?_, fun j hj => ?_, ?_⟩
      · by_cases z : j = i
        · rw [z, t2 _ (by omega), up_at rfl]
        · rw [t1 j (by omega) b, up_ne (by omega)]
      · rw [t2 j (by omega), up_ne (by omega)]
      · show pX10_record_bL20 _ _ _ _ _ = _
        unfold pX10_record_bL20
        simp (disch := omega) only [if_true, if_false, I_add, I_sub, I_mul, I_neg, I_ofNat, Option.bind_some, kIn, I_l0, I_l1, I_l2, I_l3, I_l4, I_l5, I_l6, I_l8, I_l9, I_l10, I_l11, I_l32, I_l40, I_l43, I_l44, I_l45, I_l48, I_l49, I_l57, I_l58, I_l60, I_l61, I_l62, I_l79, I_l80, I_l100, I_l120, I_l180, I_l200, I_l240, I_l300, I_l360, I_l361, I_l362, I_l363, I_l364, I_l365, I_l485, I_l605, I_l1999, I_l2000, I_le, I_lt, I_eq, I_toInt, cz_at, cz_up, if_pos, if_neg]
        exact t3
theorem f10_record5 {W V : Int → Int} : ∃ V2 : Int → Int, (∀ j, 0 ≤ j → j < 605 → V2 (2420 + j) = W j) ∧ (∀ j, 0 ≤ j → j < 2420 → V2 j = V (j + 605)) ∧ pX10_record (cz W) (cz V) (I 5) = some (cz V2, I 5) := by
  obtain ⟨V1, s1, s2, s3⟩ := f10_recShift (W := W) 4000 V 0 (by omega) (by omega) (by omega)
  obtain ⟨V2, t1, t2, t3⟩ := f10_recCopy (W := W) (k := 4) (by omega) 4000 V1 0 (by omega) (by omega) (by omega)
  refine ⟨V2, fun j a b => t1 j a b, fun j a b => by rw [t2 j (by omega)]; exact s1 j a b, ?_⟩
  unfold pX10_record
  simp (disch := omega) only [if_true, if_false, I_add, I_sub, I_mul, I_neg, I_ofNat, Option.bind_some, kIn, I_l0, I_l1, I_l2, I_l3, I_l4, I_l5, I_l6, I_l8, I_l9, I_l10, I_l11, I_l32, I_l40, I_l43, I_l44, I_l45, I_l48, I_l49, I_l57, I_l58, I_l60, I_l61, I_l62, I_l79, I_l80, I_l100, I_l120, I_l180, I_l200, I_l240, I_l300, I_l360, I_l361, I_l362, I_l363, I_l364, I_l365, I_l485, I_l605, I_l1999, I_l2000, I_eq, if_pos]
  rw [show (5 : Int) - 1 = 4 from rfl, s3]
  unfold pX10_record_j54
  simp only [if_true, if_false, I_add, I_sub, I_mul, I_neg, I_ofNat, Option.bind_some, kIn, I_l0, I_l1, I_l2, I_l3, I_l4, I_l5, I_l6, I_l8, I_l9, I_l10, I_l11, I_l32, I_l40, I_l43, I_l44, I_l45, I_l48, I_l49, I_l57, I_l58, I_l60, I_l61, I_l62, I_l79, I_l80, I_l100, I_l120, I_l180, I_l200, I_l240, I_l300, I_l360, I_l361, I_l362, I_l363, I_l364, I_l365, I_l485, I_l605, I_l1999, I_l2000]
  exact t3
-- both record alike
theorem e_record {k : Int} {s0 s1 s2 s3 s4 : vST} {V W : Int → Int} {vL0 vL1 vL2 : Nat → Int32} {vL3 : Int32} {vR0 vR1 vR2 : Nat → Int32} {vR3 : Int32} {vM0 vM1 : Nat → Int32} {vM2 : Int32} (hH : rH k s0 s1 s2 s3 s4 V) (hS : rS ((vL0, vL1, vL2, vL3), (vR0, vR1, vR2, vR3), (vM0, vM1, vM2)) W) : ∃ (k2 : Int) (r : Nat) (t0 t1 t2 t3 t4 : vST) (V2 : Int → Int), rHr r k2 t0 t1 t2 t3 t4 V2 ∧ pX2_record (I k) s0 s1 s2 s3 s4 vL0 vL1 vL2 vL3 vR0 vR1 vR2 vR3 vM0 vM1 vM2 = some (I k2, r, t0, t1, t2, t3, t4) ∧ pX10_record (cz W) (cz V) (I k) = some (cz V2, I k2) := by
  obtain ⟨hk, h0, h1, h2, h3, h4⟩ := hH
  by_cases q5 : k = 5
  · subst q5
    obtain ⟨V2, a1, a2, a3⟩ := f10_record5 (W := W) (V := V)
    refine ⟨5, 1, _, _, _, _, _, V2, Or.inr ⟨rfl, by omega, fun _ => ?_, fun _ => ?_, fun _ => ?_, fun _ => ?_, fun _ => ?_⟩, rfl, a3⟩
    · exact (h1 (by omega)).congr (fun i x y => by rw [a2 i (by omega) (by omega), show i + 605 = 605 + i by omega])
    · exact (h2 (by omega)).congr (fun i x y => by rw [a2 _ (by omega) (by omega), show 605 + i + 605 = 1210 + i by omega])
    · exact (h3 (by omega)).congr (fun i x y => by rw [a2 _ (by omega) (by omega), show 1210 + i + 605 = 1815 + i by omega])
    · exact (h4 (by omega)).congr (fun i x y => by rw [a2 _ (by omega) (by omega), show 1815 + i + 605 = 2420 + i by omega])
    · exact hS.congr (fun i x y => a1 i x y)
  · obtain ⟨V2, a1, a2, a3⟩ := f10_record (W := W) (V := V) (k := k) (by omega)
    have c : k = 0 ∨ k = 1 ∨ k = 2 ∨ k = 3 ∨ k = 4 := by omega
    rcases c with rfl | rfl | rfl | rfl | rfl
    · refine ⟨1, 0, _, _, _, _, _, V2, Or.inl ⟨rfl, by omega, fun _ => ?_, fun z => absurd z (by decide), fun z => absurd z (by decide), fun z => absurd z (by decide), fun z => absurd z (by decide)⟩, rfl, a3⟩
      exact hS.congr (fun i x y => by have := a1 i x y; rwa [show 605 * 0 + i = i by omega] at this)
    · refine ⟨2, 0, _, _, _, _, _, V2, Or.inl ⟨rfl, by omega, fun _ => ?_, fun _ => ?_, fun z => absurd z (by decide), fun z => absurd z (by decide), fun z => absurd z (by decide)⟩, rfl, a3⟩
      · exact (h0 (by omega)).congr (fun i x y => a2 i (by omega) (by omega))
      · exact hS.congr (fun i x y => a1 i x y)
    · refine ⟨3, 0, _, _, _, _, _, V2, Or.inl ⟨rfl, by omega, fun _ => ?_, fun _ => ?_, fun _ => ?_, fun z => absurd z (by decide), fun z => absurd z (by decide)⟩, rfl, a3⟩
      · exact (h0 (by omega)).congr (fun i x y => a2 i (by omega) (by omega))
      · exact (h1 (by omega)).congr (fun i x y => a2 _ (by omega) (by omega))
      · exact hS.congr (fun i x y => a1 i x y)
    · refine ⟨4, 0, _, _, _, _, _, V2, Or.inl ⟨rfl, by omega, fun _ => ?_, fun _ => ?_, fun _ => ?_, fun _ => ?_, fun z => absurd z (by decide)⟩, rfl, a3⟩
      · exact (h0 (by omega)).congr (fun i x y => a2 i (by omega) (by omega))
      · exact (h1 (by omega)).congr (fun i x y => a2 _ (by omega) (by omega))
      · exact (h2 (by omega)).congr (fun i x y => a2 _ (by omega) (by omega))
      · exact hS.congr (fun i x y => a1 i x y)
    · refine ⟨5, 0, _, _, _, _, _, V2, Or.inl ⟨rfl, by omega, fun _ => ?_, fun _ => ?_, fun _ => ?_, fun _ => ?_, fun _ => ?_⟩, rfl, a3⟩
      · exact (h0 (by omega)).congr (fun i x y => a2 i (by omega) (by omega))
      · exact (h1 (by omega)).congr (fun i x y => a2 _ (by omega) (by omega))
      · exact (h2 (by omega)).congr (fun i x y => a2 _ (by omega) (by omega))
      · exact (h3 (by omega)).congr (fun i x y => a2 _ (by omega) (by omega))
      · exact hS.congr (fun i x y => a1 i x y)
-- the reference's undo
theorem f10_undo_L {V : Int → Int} {k : Int} (hk : 0 ≤ k ∧ k < 5) : ∀ (m : Nat) (W : Int → Int) (i : Int), 0 ≤ i → i ≤ 605 → 605 - i < m → ∃ W2 : Int → Int, (∀ j, i ≤ j → j < 605 → W2 j = V (605 * k + j)) ∧ (∀ j, j < i → W2 j = W j) ∧ pX10_undo_L22 (cz V) m (cz W) (I k) (I i) = some (I k, cz W2, I k) := by
  intro m
  induction m with
  | zero => intro W i h0 h1 h2; omega
  | succ m ih =>
    intro W i h0 h1 h2
    by_cases q : i = 605
    · subst q
      refine ⟨W, fun j a b => by omega, fun j _ => rfl, ?_⟩
      show pX10_undo_bL22 _ _ _ _ _ = _
      unfold pX10_undo_bL22
      simp (disch := omega) only [if_true, if_false, I_add, I_sub, I_mul, I_neg, I_ofNat, Option.bind_some, kIn, I_l0, I_l1, I_l2, I_l3, I_l4, I_l5, I_l6, I_l8, I_l9, I_l10, I_l11, I_l32, I_l40, I_l43, I_l44, I_l45, I_l48, I_l49, I_l57, I_l58, I_l60, I_l61, I_l62, I_l79, I_l80, I_l100, I_l120, I_l180, I_l200, I_l240, I_l300, I_l360, I_l361, I_l362, I_l363, I_l364, I_l365, I_l485, I_l605, I_l1999, I_l2000, I_le, if_pos]
    · obtain ⟨V2, t1, t2, t3⟩ := ih (up W i (V (605 * k + i))) (i + 1) (by omega) (by omega) (by omega)
      refine ⟨V2, fun j a b => ?_, fun j hj => ?_, ?_⟩
      · by_cases z : j = i
        · rw [z, t2 _ (by omega), up_at rfl]
        · exact t1 j (by omega) b
      · rw [t2 j (by omega), up_ne (by omega)]
      · show pX10_undo_bL22 _ _ _ _ _ = _
        unfold pX10_undo_bL22
        simp (disch := omega) only [if_true, if_false, I_add, I_sub, I_mul, I_neg, I_ofNat, Option.bind_some, kIn, I_l0, I_l1, I_l2, I_l3, I_l4, I_l5, I_l6, I_l8, I_l9, I_l10, I_l11, I_l32, I_l40, I_l43, I_l44, I_l45, I_l48, I_l49, I_l57, I_l58, I_l60, I_l61, I_l62, I_l79, I_l80, I_l100, I_l120, I_l180, I_l200, I_l240, I_l300, I_l360, I_l361, I_l362, I_l363, I_l364, I_l365, I_l485, I_l605, I_l1999, I_l2000, I_le, I_lt, I_eq, I_toInt, cz_at, cz_up, if_pos, if_neg]
        exact t3
theorem f10_undo {V W : Int → Int} {k : Int} (hk : 0 < k ∧ k ≤ 5) : ∃ W2 : Int → Int, (∀ j, 0 ≤ j → j < 605 → W2 j = V (605 * (k - 1) + j)) ∧ pX10_undo (cz W) (cz V) (I k) = some (I (k - 1), cz W2, I (k - 1)) := by
  obtain ⟨V2, t1, t2, t3⟩ := f10_undo_L (V := V) (k := k - 1) (by omega) 4000 W 0 (by omega) (by omega) (by omega)
  refine ⟨V2, t1, ?_⟩
  unfold pX10_undo
  simp (disch := omega) only [if_true, if_false, I_add, I_sub, I_mul, I_neg, I_ofNat, Option.bind_some, kIn, I_l0, I_l1, I_l2, I_l3, I_l4, I_l5, I_l6, I_l8, I_l9, I_l10, I_l11, I_l32, I_l40, I_l43, I_l44, I_l45, I_l48, I_l49, I_l57, I_l58, I_l60, I_l61, I_l62, I_l79, I_l80, I_l100, I_l120, I_l180, I_l200, I_l240, I_l300, I_l360, I_l361, I_l362, I_l363, I_l364, I_l365, I_l485, I_l605, I_l1999, I_l2000, I_eq, if_neg]
  exact t3
