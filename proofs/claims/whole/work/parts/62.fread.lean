-- the reference reads its text: numbers, signs; S the class's signs, S2 the reference's
def tx (S S2 : Int → Int) (n : Int) : Prop := (0 ≤ n ∧ n ≤ 80) ∧ ∀ i, 0 ≤ i → i < n → S i = S2 i ∧ 0 ≤ S2 i ∧ S2 i ≤ 65535
theorem tx.s {S S2 : Int → Int} {n : Int} (h : tx S S2 n) : ∀ i, 0 ≤ i → i < n → 0 ≤ S i ∧ S i ≤ 65535 := fun i p q => by have := h.2 i p q; omega
theorem f10_isAt {S S2 : Int → Int} {n p x y : Int} (h : tx S S2 n) (hp : 0 ≤ p ∧ p ≤ 100000) (hx : 0 ≤ x ∧ x ≤ 65535) (hy : 0 ≤ y ∧ y ≤ 65535) : pX10_isAt (I n) (cz S2) (I p) (I x) (I y) = some (I (if p < n ∧ x ≤ S p ∧ S p ≤ y then 1 else 0)) := by
  have hn := h.1
  unfold pX10_isAt
  by_cases q : p < n
  · have h2 := h.2 p (by omega) q
    rw [h2.1]
    by_cases q2 : x ≤ S2 p
    · by_cases q3 : S2 p ≤ y
      · have er : (if p < n ∧ x ≤ S2 p ∧ S2 p ≤ y then (1 : Int) else 0) = 1 := if_pos ⟨q, q2, q3⟩
        rw [er]
        simp (disch := omega) only [if_true, if_false, I_add, I_sub, I_mul, I_neg, I_ofNat, Option.bind_some, kIn, I_l0, I_l1, I_l2, I_l3, I_l4, I_l5, I_l6, I_l8, I_l9, I_l10, I_l11, I_l32, I_l40, I_l43, I_l44, I_l45, I_l48, I_l49, I_l57, I_l58, I_l60, I_l61, I_l62, I_l79, I_l80, I_l100, I_l120, I_l180, I_l200, I_l240, I_l300, I_l360, I_l361, I_l362, I_l363, I_l364, I_l365, I_l485, I_l605, I_l1999, I_l2000, I_le, I_lt, I_eq, I_toInt, cz_at, cz_up, if_pos, if_neg]
      · have er : (if p < n ∧ x ≤ S2 p ∧ S2 p ≤ y then (1 : Int) else 0) = 0 := if_neg (fun z => q3 z.2.2)
        rw [er]
        simp (disch := omega) only [if_true, if_false, I_add, I_sub, I_mul, I_neg, I_ofNat, Option.bind_some, kIn, I_l0, I_l1, I_l2, I_l3, I_l4, I_l5, I_l6, I_l8, I_l9, I_l10, I_l11, I_l32, I_l40, I_l43, I_l44, I_l45, I_l48, I_l49, I_l57, I_l58, I_l60, I_l61, I_l62, I_l79, I_l80, I_l100, I_l120, I_l180, I_l200, I_l240, I_l300, I_l360, I_l361, I_l362, I_l363, I_l364, I_l365, I_l485, I_l605, I_l1999, I_l2000, I_le, I_lt, I_eq, I_toInt, cz_at, cz_up, if_pos, if_neg]
    · have er : (if p < n ∧ x ≤ S2 p ∧ S2 p ≤ y then (1 : Int) else 0) = 0 := if_neg (fun z => q2 z.2.1)
      rw [er]
      simp (disch := omega) only [if_true, if_false, I_add, I_sub, I_mul, I_neg, I_ofNat, Option.bind_some, kIn, I_l0, I_l1, I_l2, I_l3, I_l4, I_l5, I_l6, I_l8, I_l9, I_l10, I_l11, I_l32, I_l40, I_l43, I_l44, I_l45, I_l48, I_l49, I_l57, I_l58, I_l60, I_l61, I_l62, I_l79, I_l80, I_l100, I_l120, I_l180, I_l200, I_l240, I_l300, I_l360, I_l361, I_l362, I_l363, I_l364, I_l365, I_l485, I_l605, I_l1999, I_l2000, I_le, I_lt, I_eq, I_toInt, cz_at, cz_up, if_pos, if_neg]
  · have er : (if p < n ∧ x ≤ S p ∧ S p ≤ y then (1 : Int) else 0) = 0 := if_neg (fun z => q z.1)
    rw [er]
    simp (disch := omega) only [if_true, if_false, I_add, I_sub, I_mul, I_neg, I_ofNat, Option.bind_some, kIn, I_l0, I_l1, I_l2, I_l3, I_l4, I_l5, I_l6, I_l8, I_l9, I_l10, I_l11, I_l32, I_l40, I_l43, I_l44, I_l45, I_l48, I_l49, I_l57, I_l58, I_l60, I_l61, I_l62, I_l79, I_l80, I_l100, I_l120, I_l180, I_l200, I_l240, I_l300, I_l360, I_l361, I_l362, I_l363, I_l364, I_l365, I_l485, I_l605, I_l1999, I_l2000, I_le, I_lt, I_eq, I_toInt, cz_at, cz_up, if_pos, if_neg]
theorem dgt_iff {S : Int → Int} {n p : Int} (hp : 0 ≤ p) : dgt S n p ↔ (p < n ∧ 48 ≤ S p ∧ S p ≤ 57) := by
  constructor
  · intro h
    have q := dgt_in h
    unfold dgt at h
    rw [at0_in q] at h
    exact ⟨q.2, h⟩
  · intro h
    unfold dgt
    rw [at0_in ⟨hp, h.1⟩]
    exact h.2
theorem f10_j88B {S2 : Int → Int} {n p q v : Int} : pX10_number_j88 (I n) (cz S2) (I p) (I 0) (I q) (I v) = some (I v, I p, I 0, I q) := if_pos rfl
theorem f10_j88 {S S2 : Int → Int} {n p q v d : Int} (h : tx S S2 n) (hp : 0 ≤ p ∧ p ≤ 100000) (hq : 0 ≤ q ∧ q ≤ 100000) (hd : (d = 1 ∧ q < p ∧ ¬ dgt S n p) ∨ (d = 0 ∧ (p ≤ q ∨ dgt S n p))) : pX10_number_j88 (I n) (cz S2) (I p) (I 1) (I q) (I v) = some (I v, I p, I d, I q) := by
  unfold pX10_number_j88
  have e1 := f10_isAt h hp (x := 48) (y := 57) (by omega) (by omega)
  by_cases z : q < p
  · rcases hd with ⟨rfl, -, z2⟩ | ⟨rfl, z2⟩
    · rw [if_neg (fun t => z2 ((dgt_iff hp.1).mpr t))] at e1
      exact (if_neg (by decide)).trans ((if_neg (by rw [I_le (by omega)]; omega)).trans (obind e1 (if_pos (by decide))))
    · rw [if_pos ((dgt_iff hp.1).mp (z2.resolve_left (by omega)))] at e1
      exact (if_neg (by decide)).trans ((if_neg (by rw [I_le (by omega)]; omega)).trans (obind e1 (if_neg (by decide))))
  · rcases hd with ⟨rfl, z2, -⟩ | ⟨rfl, z2⟩
    · exact absurd z2 z
    · exact (if_neg (by decide)).trans (if_pos (by rw [I_le (by omega)]; omega))
theorem f10_numY {S S2 : Int → Int} {n p q v : Int} (K : Int32 → Int32 → Int32 → Int32 → Option (Int32 × Int32 × Int32 × Int32)) (h : tx S S2 n) (hp : 0 ≤ q ∧ q ≤ p ∧ p < q + 2 ∧ p < n) (hd : (if p = q then 49 else 48) ≤ S p ∧ S p ≤ 57) : pX10_number_bL10 (I n) (cz S2) K (I p) (I 1) (I q) (I v) = K (I (p + 1)) (I 1) (I q) (I (10 * v + S p - 48)) := by
  have hn := h.1
  unfold pX10_number_bL10 pX10_number_j49
  have h2 := h.2 p (by omega) (by omega)
  by_cases z : p = q
  · rw [if_pos z] at hd
    have e1 := f10_isAt h (p := p) (by omega) (x := 49) (y := 57) (by omega) (by omega)
    rw [if_pos ⟨hp.2.2.2, hd.1, hd.2⟩] at e1
    simp (disch := omega) only [if_true, if_false, I_add, I_sub, I_mul, I_neg, I_ofNat, Option.bind_some, kIn, I_l0, I_l1, I_l2, I_l3, I_l4, I_l5, I_l6, I_l8, I_l9, I_l10, I_l11, I_l32, I_l40, I_l43, I_l44, I_l45, I_l48, I_l49, I_l57, I_l58, I_l60, I_l61, I_l62, I_l79, I_l80, I_l100, I_l120, I_l180, I_l200, I_l240, I_l300, I_l360, I_l361, I_l362, I_l363, I_l364, I_l365, I_l485, I_l605, I_l1999, I_l2000, I_le, I_lt, I_eq, I_toInt, cz_at, cz_up, if_pos, if_neg, e1]
    rw [h2.1]
  · rw [if_neg z] at hd
    have e1 := f10_isAt h (p := p) (by omega) (x := 48) (y := 57) (by omega) (by omega)
    rw [if_pos ⟨hp.2.2.2, hd.1, hd.2⟩] at e1
    simp (disch := omega) only [if_true, if_false, I_add, I_sub, I_mul, I_neg, I_ofNat, Option.bind_some, kIn, I_l0, I_l1, I_l2, I_l3, I_l4, I_l5, I_l6, I_l8, I_l9, I_l10, I_l11, I_l32, I_l40, I_l43, I_l44, I_l45, I_l48, I_l49, I_l57, I_l58, I_l60, I_l61, I_l62, I_l79, I_l80, I_l100, I_l120, I_l180, I_l200, I_l240, I_l300, I_l360, I_l361, I_l362, I_l363, I_l364, I_l365, I_l485, I_l605, I_l1999, I_l2000, I_le, I_lt, I_eq, I_toInt, cz_at, cz_up, if_pos, if_neg, e1]
    rw [h2.1]
theorem f10_numN {S S2 : Int → Int} {n p q v : Int} (K : Int32 → Int32 → Int32 → Int32 → Option (Int32 × Int32 × Int32 × Int32)) (h : tx S S2 n) (hp : 0 ≤ q ∧ q ≤ p ∧ p ≤ 1000) (hd : q + 2 ≤ p ∨ ¬ (p < n ∧ (if p = q then 49 else 48) ≤ S p ∧ S p ≤ 57)) : pX10_number_bL10 (I n) (cz S2) K (I p) (I 1) (I q) (I v) = pX10_number_j88 (I n) (cz S2) (I p) (I 1) (I q) (I v) := by
  have hn := h.1
  unfold pX10_number_bL10 pX10_number_j49
  by_cases y : q + 2 ≤ p
  · simp (disch := omega) only [if_true, if_false, I_add, I_sub, I_mul, I_neg, I_ofNat, Option.bind_some, kIn, I_l0, I_l1, I_l2, I_l3, I_l4, I_l5, I_l6, I_l8, I_l9, I_l10, I_l11, I_l32, I_l40, I_l43, I_l44, I_l45, I_l48, I_l49, I_l57, I_l58, I_l60, I_l61, I_l62, I_l79, I_l80, I_l100, I_l120, I_l180, I_l200, I_l240, I_l300, I_l360, I_l361, I_l362, I_l363, I_l364, I_l365, I_l485, I_l605, I_l1999, I_l2000, I_le, I_lt, I_eq, I_toInt, cz_at, cz_up, if_pos, if_neg]
  · have hd2 := hd.resolve_left y
    by_cases z : p = q
    · rw [if_pos z] at hd2
      have e1 := f10_isAt h (p := p) (by omega) (x := 49) (y := 57) (by omega) (by omega)
      rw [if_neg hd2] at e1
      simp (disch := omega) only [if_true, if_false, I_add, I_sub, I_mul, I_neg, I_ofNat, Option.bind_some, kIn, I_l0, I_l1, I_l2, I_l3, I_l4, I_l5, I_l6, I_l8, I_l9, I_l10, I_l11, I_l32, I_l40, I_l43, I_l44, I_l45, I_l48, I_l49, I_l57, I_l58, I_l60, I_l61, I_l62, I_l79, I_l80, I_l100, I_l120, I_l180, I_l200, I_l240, I_l300, I_l360, I_l361, I_l362, I_l363, I_l364, I_l365, I_l485, I_l605, I_l1999, I_l2000, I_le, I_lt, I_eq, I_toInt, cz_at, cz_up, if_pos, if_neg, e1]
    · rw [if_neg z] at hd2
      have e1 := f10_isAt h (p := p) (by omega) (x := 48) (y := 57) (by omega) (by omega)
      rw [if_neg hd2] at e1
      simp (disch := omega) only [if_true, if_false, I_add, I_sub, I_mul, I_neg, I_ofNat, Option.bind_some, kIn, I_l0, I_l1, I_l2, I_l3, I_l4, I_l5, I_l6, I_l8, I_l9, I_l10, I_l11, I_l32, I_l40, I_l43, I_l44, I_l45, I_l48, I_l49, I_l57, I_l58, I_l60, I_l61, I_l62, I_l79, I_l80, I_l100, I_l120, I_l180, I_l200, I_l240, I_l300, I_l360, I_l361, I_l362, I_l363, I_l364, I_l365, I_l485, I_l605, I_l1999, I_l2000, I_le, I_lt, I_eq, I_toInt, cz_at, cz_up, if_pos, if_neg, e1]
theorem f10_numL {D : Int32} {T : Nat → Int32} (m : Nat) : pX10_number_L10 D T (m + 1) = pX10_number_bL10 D T (pX10_number_L10 D T m) := rfl
theorem f10_numberB {S2 : Int → Int} {n p : Int} : pX10_number (I n) (cz S2) (I p) (I 0) = some (I 0, I p, I 0, I p) := by
  unfold pX10_number
  rw [show (4000 : Nat) = 3999 + 1 from rfl, f10_numL]
  exact (if_pos rfl).trans (f10_j88B (v := 0))
theorem f10_number {S S2 : Int → Int} {n p p2 f2 v : Int} (h : tx S S2 n) (hp : 0 ≤ p ∧ p ≤ n) (hn : nuF S n p p2 f2 v) : pX10_number (I n) (cz S2) (I p) (I 1) = some (I v, I p2, I (if f2 = -1 then 1 else 0), I p) := by
  have h0 := h.1
  unfold pX10_number
  rw [show (4000 : Nat) = 3997 + 1 + 1 + 1 from rfl, f10_numL, I_l0]
  rcases hn with ⟨h1, h2, h3, h4⟩ | ⟨h1, h2, h3, h4, h5⟩ | ⟨h1, h2, h3, h4, h5, h6⟩ | ⟨h1, h2, h3, h4, h5, h6⟩
  · rw [h2, h3, h4, if_neg (by omega : ¬ p = -1)]
    refine (f10_numN _ h (by omega) (Or.inr (fun z => h1 (by rw [at0_in ⟨hp.1, z.1⟩]; rw [if_pos rfl] at z; exact z.2)))).trans ?_
    exact f10_j88 h (by omega) (by omega) (Or.inr ⟨rfl, Or.inl (by omega)⟩)
  · have q1 := dgt_in (S := S) (n := n) (i := p) (by unfold dgt; omega)
    rw [at0_in q1] at h1
    rw [h3, h4, h5, if_pos rfl]
    refine (f10_numY _ h (by omega) (by rw [if_pos rfl]; exact h1)).trans ?_
    rw [f10_numL, show 10 * 0 + S p - 48 = S p - 48 by omega]
    refine (f10_numN _ h (by omega) (Or.inr (fun z => h2 ((dgt_iff (by omega)).mpr (by rw [if_neg (by omega)] at z; exact z))))).trans ?_
    exact f10_j88 h (by omega) (by omega) (Or.inl ⟨rfl, by omega, h2⟩)
  · have q1 := dgt_in (S := S) (n := n) (i := p) (by unfold dgt; omega)
    rw [at0_in q1] at h1
    have q2 := (dgt_iff (by omega)).mp h2
    rw [h4, h5, h6, if_pos rfl]
    refine (f10_numY _ h (by omega) (by rw [if_pos rfl]; exact h1)).trans ?_
    rw [f10_numL]
    refine (f10_numY _ h (by omega) (by rw [if_neg (by omega)]; exact q2.2)).trans ?_
    rw [f10_numL, show p + 1 + 1 = p + 2 by omega, show 10 * (10 * 0 + S p - 48) + S (p + 1) - 48 = 10 * (S p - 48) + S (p + 1) - 48 by omega]
    refine (f10_numN _ h (by omega) (Or.inl (by omega))).trans ?_
    exact f10_j88 h (by omega) (by omega) (Or.inl ⟨rfl, by omega, h3⟩)
  · have q1 := dgt_in (S := S) (n := n) (i := p) (by unfold dgt; omega)
    rw [at0_in q1] at h1
    have q2 := (dgt_iff (by omega)).mp h2
    rw [h4, h5, h6, if_neg (by omega : ¬ p + 2 = -1)]
    refine (f10_numY _ h (by omega) (by rw [if_pos rfl]; exact h1)).trans ?_
    rw [f10_numL]
    refine (f10_numY _ h (by omega) (by rw [if_neg (by omega)]; exact q2.2)).trans ?_
    rw [f10_numL, show p + 1 + 1 = p + 2 by omega, show 10 * (10 * 0 + S p - 48) + S (p + 1) - 48 = 10 * (S p - 48) + S (p + 1) - 48 by omega]
    refine (f10_numN _ h (by omega) (Or.inl (by omega))).trans ?_
    exact f10_j88 h (by omega) (by omega) (Or.inr ⟨rfl, Or.inr h3⟩)
theorem f10_signB {p : Int} {n' : Int32} {T : Nat → Int32} {c : Int32} : pX10_sign n' T (I p) (I 0) c = some (I p, I 0) := if_pos rfl
theorem f10_sign {S S2 : Int → Int} {n p c : Int} (h : tx S S2 n) (hp : 0 ≤ p ∧ p ≤ 100000) (hc : 0 ≤ c ∧ c ≤ 65535) : pX10_sign (I n) (cz S2) (I p) (I 1) (I c) = some (if p < n ∧ S p = c then (I (p + 1), I 1) else (I p, I 0)) := by
  unfold pX10_sign
  have e1 := f10_isAt h hp (x := c) (y := c) hc hc
  by_cases z : p < n ∧ S p = c
  · rw [if_pos ⟨z.1, by omega⟩] at e1
    rw [if_pos z]
    simp (disch := omega) only [if_true, if_false, I_add, I_sub, I_mul, I_neg, I_ofNat, Option.bind_some, kIn, I_l0, I_l1, I_l2, I_l3, I_l4, I_l5, I_l6, I_l8, I_l9, I_l10, I_l11, I_l32, I_l40, I_l43, I_l44, I_l45, I_l48, I_l49, I_l57, I_l58, I_l60, I_l61, I_l62, I_l79, I_l80, I_l100, I_l120, I_l180, I_l200, I_l240, I_l300, I_l360, I_l361, I_l362, I_l363, I_l364, I_l365, I_l485, I_l605, I_l1999, I_l2000, I_le, I_lt, I_eq, I_toInt, cz_at, cz_up, if_pos, if_neg, e1]
  · rw [if_neg (fun t => z ⟨t.1, by omega⟩)] at e1
    rw [if_neg z]
    simp (disch := omega) only [if_true, if_false, I_add, I_sub, I_mul, I_neg, I_ofNat, Option.bind_some, kIn, I_l0, I_l1, I_l2, I_l3, I_l4, I_l5, I_l6, I_l8, I_l9, I_l10, I_l11, I_l32, I_l40, I_l43, I_l44, I_l45, I_l48, I_l49, I_l57, I_l58, I_l60, I_l61, I_l62, I_l79, I_l80, I_l100, I_l120, I_l180, I_l200, I_l240, I_l300, I_l360, I_l361, I_l362, I_l363, I_l364, I_l365, I_l485, I_l605, I_l1999, I_l2000, I_le, I_lt, I_eq, I_toInt, cz_at, cz_up, if_pos, if_neg, e1]
theorem f10_needsB {p q : Int} {x : Int32} : pX10_needs (I p) (I 0) (I q) x = some (I p, I 0) := if_pos rfl
theorem f10_needs {p q x : Int} (hx : -100 ≤ x ∧ x ≤ 100) : pX10_needs (I p) (I 1) (I q) (I x) = some (if x = 0 then (I q, I 0) else (I p, I 1)) := by
  unfold pX10_needs
  by_cases z : x = 0
  · rw [if_pos z]
    simp (disch := omega) only [if_true, if_false, I_add, I_sub, I_mul, I_neg, I_ofNat, Option.bind_some, kIn, I_l0, I_l1, I_l2, I_l3, I_l4, I_l5, I_l6, I_l8, I_l9, I_l10, I_l11, I_l32, I_l40, I_l43, I_l44, I_l45, I_l48, I_l49, I_l57, I_l58, I_l60, I_l61, I_l62, I_l79, I_l80, I_l100, I_l120, I_l180, I_l200, I_l240, I_l300, I_l360, I_l361, I_l362, I_l363, I_l364, I_l365, I_l485, I_l605, I_l1999, I_l2000, I_le, I_lt, I_eq, I_toInt, cz_at, cz_up, if_pos, if_neg]
  · rw [if_neg z]
    simp (disch := omega) only [if_true, if_false, I_add, I_sub, I_mul, I_neg, I_ofNat, Option.bind_some, kIn, I_l0, I_l1, I_l2, I_l3, I_l4, I_l5, I_l6, I_l8, I_l9, I_l10, I_l11, I_l32, I_l40, I_l43, I_l44, I_l45, I_l48, I_l49, I_l57, I_l58, I_l60, I_l61, I_l62, I_l79, I_l80, I_l100, I_l120, I_l180, I_l200, I_l240, I_l300, I_l360, I_l361, I_l362, I_l363, I_l364, I_l365, I_l485, I_l605, I_l1999, I_l2000, I_le, I_lt, I_eq, I_toInt, cz_at, cz_up, if_pos, if_neg]
