-- out of 34.ftext
-- the text's methods: S the signs, n how many, p the place, f the fault (-1: none)
theorem nar_char {x : Int} (h : 0 ≤ x ∧ x ≤ 65535) : vp_nar .char (I x) = I x := by
  rw [vp_nar_char]
  refine Int32.toInt_inj.mp ?_
  have h1 : (I x).toInt = x := I_toInt (by omega)
  have h2 : (I x).toUInt32.toNat = x.toNat := by
    have h3 : (I x).toUInt32.toNat = (BitVec.ofInt 32 x).toNat := rfl
    rw [h3, BitVec.toNat_ofInt]
    omega
  have h4 : (I x).toUInt32.toUInt16.toUInt32.toNat = x.toNat := by
    rw [UInt16.toNat_toUInt32, UInt32.toNat_toUInt16, h2]
    omega
  have h5 : (I x).toUInt32.toUInt16.toUInt32 = (I x).toUInt32 := UInt32.toNat_inj.mp (by rw [h4, h2])
  rw [h5]
  rfl
theorem f8_append {S : Int → Int} {n x : Int} (h : (0 ≤ n ∧ n < 80) ∧ 0 ≤ x ∧ x ≤ 65535) : pX8_append (cz S) (I n) (I x) = some (I 1, cz (up S n x), I (n + 1)) := by
  have e : pX9_isWithin (I n) (0 : Int32) (79 : Int32) = some (I 1) := by
    unfold pX9_isWithin
    simp (disch := omega) only [if_true, if_false, I_add, I_sub, I_mul, I_neg, I_ofNat, Option.bind_some, kIn, I_l0, I_l1, I_l2, I_l3, I_l4, I_l5, I_l6, I_l7, I_l8, I_l9, I_l10, I_l11, I_l12, I_l13, I_l40, I_l43, I_l44, I_l45, I_l48, I_l57, I_l58, I_l60, I_l61, I_l62, I_l79, I_l80, I_l100, I_l101, I_l120, I_l200, I_l201, I_l1999, I_l2000, I_l2001, I_le, I_lt, I_eq, I_toInt, cz_at, cz_up, if_pos, if_neg]
  unfold pX8_append
  rw [nar_char h.2, e]
  simp (disch := omega) only [if_true, if_false, I_add, I_sub, I_mul, I_neg, I_ofNat, Option.bind_some, kIn, I_l0, I_l1, I_l2, I_l3, I_l4, I_l5, I_l6, I_l7, I_l8, I_l9, I_l10, I_l11, I_l12, I_l13, I_l40, I_l43, I_l44, I_l45, I_l48, I_l57, I_l58, I_l60, I_l61, I_l62, I_l79, I_l80, I_l100, I_l101, I_l120, I_l200, I_l201, I_l1999, I_l2000, I_l2001, I_le, I_lt, I_eq, I_toInt, cz_at, cz_up, if_pos, if_neg]
theorem f8_appendF {S : Int → Int} {x : Int32} : pX8_append (cz S) (I 80) x = some (I 0, cz S, I 80) := by
  have e : pX9_isWithin (I 80) (0 : Int32) (79 : Int32) = some (I 0) := by
    unfold pX9_isWithin
    simp (disch := omega) only [if_true, if_false, I_add, I_sub, I_mul, I_neg, I_ofNat, Option.bind_some, kIn, I_l0, I_l1, I_l2, I_l3, I_l4, I_l5, I_l6, I_l7, I_l8, I_l9, I_l10, I_l11, I_l12, I_l13, I_l40, I_l43, I_l44, I_l45, I_l48, I_l57, I_l58, I_l60, I_l61, I_l62, I_l79, I_l80, I_l100, I_l101, I_l120, I_l200, I_l201, I_l1999, I_l2000, I_l2001, I_le, I_lt, I_eq, I_toInt, cz_at, cz_up, if_pos, if_neg]
  unfold pX8_append
  rw [e]
  simp (disch := omega) only [if_true, if_false, I_add, I_sub, I_mul, I_neg, I_ofNat, Option.bind_some, kIn, I_l0, I_l1, I_l2, I_l3, I_l4, I_l5, I_l6, I_l7, I_l8, I_l9, I_l10, I_l11, I_l12, I_l13, I_l40, I_l43, I_l44, I_l45, I_l48, I_l57, I_l58, I_l60, I_l61, I_l62, I_l79, I_l80, I_l100, I_l101, I_l120, I_l200, I_l201, I_l1999, I_l2000, I_l2001, I_le, I_lt, I_eq, I_toInt, cz_at, cz_up, if_pos, if_neg]
theorem f8_goesOn {n p f : Int} (h : (0 ≤ n ∧ n ≤ 80) ∧ (0 ≤ p ∧ p ≤ 100000) ∧ -1 ≤ f ∧ f ≤ 100000) : pX8_goesOn (I n) (I p) (I f) = some (I (if f = -1 ∧ p < n then 1 else 0)) := by
  unfold pX8_goesOn pX8_hasFault
  simp (disch := omega) only [if_true, if_false, I_add, I_sub, I_mul, I_neg, I_ofNat, Option.bind_some, kIn, I_l0, I_l1, I_l2, I_l3, I_l4, I_l5, I_l6, I_l7, I_l8, I_l9, I_l10, I_l11, I_l12, I_l13, I_l40, I_l43, I_l44, I_l45, I_l48, I_l57, I_l58, I_l60, I_l61, I_l62, I_l79, I_l80, I_l100, I_l101, I_l120, I_l200, I_l201, I_l1999, I_l2000, I_l2001, I_le, I_eq]
  by_cases q : f = -1
  · rw [if_pos q]
    simp (disch := omega) only [if_true, if_false, I_add, I_sub, I_mul, I_neg, I_ofNat, Option.bind_some, kIn, I_l0, I_l1, I_l2, I_l3, I_l4, I_l5, I_l6, I_l7, I_l8, I_l9, I_l10, I_l11, I_l12, I_l13, I_l40, I_l43, I_l44, I_l45, I_l48, I_l57, I_l58, I_l60, I_l61, I_l62, I_l79, I_l80, I_l100, I_l101, I_l120, I_l200, I_l201, I_l1999, I_l2000, I_l2001, I_le, I_eq, if_pos]
    by_cases q2 : n ≤ p
    · rw [if_pos q2, if_neg (by omega)]
    · rw [if_neg q2, if_pos (by omega)]
  · have e : ¬ (f = -1 ∧ p < n) := fun z => q z.1
    rw [if_neg q, if_neg e]
    simp (disch := omega) only [if_true, if_false, I_add, I_sub, I_mul, I_neg, I_ofNat, Option.bind_some, kIn, I_l0, I_l1, I_l2, I_l3, I_l4, I_l5, I_l6, I_l7, I_l8, I_l9, I_l10, I_l11, I_l12, I_l13, I_l40, I_l43, I_l44, I_l45, I_l48, I_l57, I_l58, I_l60, I_l61, I_l62, I_l79, I_l80, I_l100, I_l101, I_l120, I_l200, I_l201, I_l1999, I_l2000, I_l2001, I_eq, if_neg]
theorem f8_signAt {S : Int → Int} {n i : Int} (h : (0 ≤ n ∧ n ≤ 80) ∧ -100000 ≤ i ∧ i ≤ 100000) (hS : ∀ i, 0 ≤ i → i < n → 0 ≤ S i ∧ S i ≤ 65535) : pX8_signAt (cz S) (I n) (I i) = some (I (at0 S n i)) := by
  unfold pX8_signAt
  by_cases q : 0 ≤ i ∧ i < n
  · rw [at0_in q]
    have h1 := hS i q.1 q.2
    simp (disch := omega) only [if_true, if_false, I_add, I_sub, I_mul, I_neg, I_ofNat, Option.bind_some, kIn, I_l0, I_l1, I_l2, I_l3, I_l4, I_l5, I_l6, I_l7, I_l8, I_l9, I_l10, I_l11, I_l12, I_l13, I_l40, I_l43, I_l44, I_l45, I_l48, I_l57, I_l58, I_l60, I_l61, I_l62, I_l79, I_l80, I_l100, I_l101, I_l120, I_l200, I_l201, I_l1999, I_l2000, I_l2001, I_le, I_lt, I_eq, I_toInt, cz_at, cz_up, if_pos, if_neg]
    rw [if_pos (nar_char h1)]
  · rw [at0_out q]
    simp (disch := omega) only [if_true, if_false, I_add, I_sub, I_mul, I_neg, I_ofNat, Option.bind_some, kIn, I_l0, I_l1, I_l2, I_l3, I_l4, I_l5, I_l6, I_l7, I_l8, I_l9, I_l10, I_l11, I_l12, I_l13, I_l40, I_l43, I_l44, I_l45, I_l48, I_l57, I_l58, I_l60, I_l61, I_l62, I_l79, I_l80, I_l100, I_l101, I_l120, I_l200, I_l201, I_l1999, I_l2000, I_l2001, I_lt, I_le]
    by_cases q2 : i < 0
    · rw [if_pos q2]
    · rw [if_neg q2, if_pos (by omega)]
theorem sg_bd {S : Int → Int} {n : Int} (hS : ∀ i, 0 ≤ i → i < n → 0 ≤ S i ∧ S i ≤ 65535) (i : Int) : 0 ≤ at0 S n i ∧ at0 S n i ≤ 65535 := at0_bd hS (by omega) i
theorem f8_stands {S : Int → Int} {n p f c : Int} (h : (0 ≤ n ∧ n ≤ 80) ∧ (0 ≤ p ∧ p ≤ 100000) ∧ (-1 ≤ f ∧ f ≤ 100000) ∧ 0 ≤ c ∧ c ≤ 65535) (hS : ∀ i, 0 ≤ i → i < n → 0 ≤ S i ∧ S i ≤ 65535) : pX8_stands (cz S) (I n) (I p) (I f) (I c) = some (I (if f = -1 ∧ p < n ∧ S p = c then 1 else 0)) := by
  unfold pX8_stands
  rw [f8_goesOn (by omega)]
  simp only [if_true, if_false, I_add, I_sub, I_mul, I_neg, I_ofNat, Option.bind_some, kIn, I_l0, I_l1, I_l2, I_l3, I_l4, I_l5, I_l6, I_l7, I_l8, I_l9, I_l10, I_l11, I_l12, I_l13, I_l40, I_l43, I_l44, I_l45, I_l48, I_l57, I_l58, I_l60, I_l61, I_l62, I_l79, I_l80, I_l100, I_l101, I_l120, I_l200, I_l201, I_l1999, I_l2000, I_l2001]
  by_cases q : f = -1 ∧ p < n
  · have h1 := hS p (by omega) (by omega)
    rw [if_pos q, f8_signAt (by omega) hS, at0_in (by omega)]
    simp (disch := omega) only [if_true, if_false, I_add, I_sub, I_mul, I_neg, I_ofNat, Option.bind_some, kIn, I_l0, I_l1, I_l2, I_l3, I_l4, I_l5, I_l6, I_l7, I_l8, I_l9, I_l10, I_l11, I_l12, I_l13, I_l40, I_l43, I_l44, I_l45, I_l48, I_l57, I_l58, I_l60, I_l61, I_l62, I_l79, I_l80, I_l100, I_l101, I_l120, I_l200, I_l201, I_l1999, I_l2000, I_l2001, I_eq, if_neg]
    by_cases q2 : S p = c
    · rw [if_pos q2, if_pos (by omega)]
    · rw [if_neg q2, if_neg (by omega)]
  · have e : ¬ (f = -1 ∧ p < n ∧ S p = c) := fun z => q ⟨z.1, z.2.1⟩
    rw [if_neg q, if_neg e]
    simp (disch := omega) only [if_true, if_false, I_add, I_sub, I_mul, I_neg, I_ofNat, Option.bind_some, kIn, I_l0, I_l1, I_l2, I_l3, I_l4, I_l5, I_l6, I_l7, I_l8, I_l9, I_l10, I_l11, I_l12, I_l13, I_l40, I_l43, I_l44, I_l45, I_l48, I_l57, I_l58, I_l60, I_l61, I_l62, I_l79, I_l80, I_l100, I_l101, I_l120, I_l200, I_l201, I_l1999, I_l2000, I_l2001, I_eq, if_pos]
theorem f8_standsB {S : Int → Int} {n p f c : Int} (h : (0 ≤ n ∧ n ≤ 80) ∧ (0 ≤ p ∧ p ≤ 100000) ∧ (0 ≤ f ∧ f ≤ 100000) ∧ 0 ≤ c ∧ c ≤ 65535) (hS : ∀ i, 0 ≤ i → i < n → 0 ≤ S i ∧ S i ≤ 65535) : pX8_stands (cz S) (I n) (I p) (I f) (I c) = some (I 0) := by
  rw [f8_stands (by omega) hS, if_neg (by omega)]
def flt (f i : Int) : Int := if f = -1 then i else f
theorem f8_failAt {f i : Int} (h : -1 ≤ f ∧ f ≤ 100000) : pX8_failAt (I f) (I i) = some (I (flt f i)) := by
  unfold pX8_failAt flt
  simp (disch := omega) only [if_true, if_false, I_add, I_sub, I_mul, I_neg, I_ofNat, Option.bind_some, kIn, I_l0, I_l1, I_l2, I_l3, I_l4, I_l5, I_l6, I_l7, I_l8, I_l9, I_l10, I_l11, I_l12, I_l13, I_l40, I_l43, I_l44, I_l45, I_l48, I_l57, I_l58, I_l60, I_l61, I_l62, I_l79, I_l80, I_l100, I_l101, I_l120, I_l200, I_l201, I_l1999, I_l2000, I_l2001, I_eq]
  split <;> rfl
theorem f8_failAtNumber {f i : Int} (h : -1 ≤ f ∧ f ≤ 100000) : pX8_failAtNumber (I f) (I i) = some (I (flt f i)) := by
  unfold pX8_failAtNumber
  rw [f8_failAt h]
  rfl
theorem flt_1 {i : Int} : flt (-1) i = i := rfl
theorem flt_2 {f i : Int} (h : 0 ≤ f) : flt f i = f := if_neg (by omega)
-- skip: the sign stands there, or it fails there, or there was a fault
theorem f8_skipY {S : Int → Int} {n p c : Int} (h : (0 ≤ n ∧ n ≤ 80) ∧ (0 ≤ p ∧ p < n) ∧ 0 ≤ c ∧ c ≤ 65535) (hS : ∀ i, 0 ≤ i → i < n → 0 ≤ S i ∧ S i ≤ 65535) (hc : S p = c) : pX8_skip (cz S) (I n) (I p) (I (-1)) (I c) = some (I (p + 1), I (-1)) := by
  unfold pX8_skip
  rw [f8_stands (by omega) hS, if_pos (by omega)]
  simp (disch := omega) only [if_true, if_false, I_add, I_sub, I_mul, I_neg, I_ofNat, Option.bind_some, kIn, I_l0, I_l1, I_l2, I_l3, I_l4, I_l5, I_l6, I_l7, I_l8, I_l9, I_l10, I_l11, I_l12, I_l13, I_l40, I_l43, I_l44, I_l45, I_l48, I_l57, I_l58, I_l60, I_l61, I_l62, I_l79, I_l80, I_l100, I_l101, I_l120, I_l200, I_l201, I_l1999, I_l2000, I_l2001, I_eq, if_neg]
theorem f8_skipN {S : Int → Int} {n p c : Int} (h : (0 ≤ n ∧ n ≤ 80) ∧ (0 ≤ p ∧ p ≤ 100000) ∧ 0 ≤ c ∧ c ≤ 65535) (hS : ∀ i, 0 ≤ i → i < n → 0 ≤ S i ∧ S i ≤ 65535) (hc : ¬ (p < n ∧ S p = c)) : pX8_skip (cz S) (I n) (I p) (I (-1)) (I c) = some (I p, I p) := by
  unfold pX8_skip
  rw [f8_stands (by omega) hS, if_neg (by omega), f8_failAt (by omega)]
  simp (disch := omega) only [if_true, if_false, I_add, I_sub, I_mul, I_neg, I_ofNat, Option.bind_some, kIn, I_l0, I_l1, I_l2, I_l3, I_l4, I_l5, I_l6, I_l7, I_l8, I_l9, I_l10, I_l11, I_l12, I_l13, I_l40, I_l43, I_l44, I_l45, I_l48, I_l57, I_l58, I_l60, I_l61, I_l62, I_l79, I_l80, I_l100, I_l101, I_l120, I_l200, I_l201, I_l1999, I_l2000, I_l2001, I_eq, if_pos]
  rfl
theorem f8_skipB {S : Int → Int} {n p f c : Int} (h : (0 ≤ n ∧ n ≤ 80) ∧ (0 ≤ p ∧ p ≤ 100000) ∧ (0 ≤ f ∧ f ≤ 100000) ∧ 0 ≤ c ∧ c ≤ 65535) (hS : ∀ i, 0 ≤ i → i < n → 0 ≤ S i ∧ S i ≤ 65535) : pX8_skip (cz S) (I n) (I p) (I f) (I c) = some (I p, I f) := by
  unfold pX8_skip
  rw [f8_stands (by omega) hS, if_neg (by omega), f8_failAt (by omega), flt_2 (by omega)]
  simp (disch := omega) only [if_true, if_false, I_add, I_sub, I_mul, I_neg, I_ofNat, Option.bind_some, kIn, I_l0, I_l1, I_l2, I_l3, I_l4, I_l5, I_l6, I_l7, I_l8, I_l9, I_l10, I_l11, I_l12, I_l13, I_l40, I_l43, I_l44, I_l45, I_l48, I_l57, I_l58, I_l60, I_l61, I_l62, I_l79, I_l80, I_l100, I_l101, I_l120, I_l200, I_l201, I_l1999, I_l2000, I_l2001, I_eq, if_pos]
theorem f8_isDigit {S : Int → Int} {n i : Int} (h : (0 ≤ n ∧ n ≤ 80) ∧ -100000 ≤ i ∧ i ≤ 100000) (hS : ∀ i, 0 ≤ i → i < n → 0 ≤ S i ∧ S i ≤ 65535) : pX8_isDigit (cz S) (I n) (I i) = some (I (if 48 ≤ at0 S n i ∧ at0 S n i ≤ 57 then 1 else 0)) := by
  unfold pX8_isDigit
  have h1 := sg_bd hS i
  rw [f8_signAt (by omega) hS]
  simp only [if_true, if_false, I_add, I_sub, I_mul, I_neg, I_ofNat, Option.bind_some, kIn, I_l0, I_l1, I_l2, I_l3, I_l4, I_l5, I_l6, I_l7, I_l8, I_l9, I_l10, I_l11, I_l12, I_l13, I_l40, I_l43, I_l44, I_l45, I_l48, I_l57, I_l58, I_l60, I_l61, I_l62, I_l79, I_l80, I_l100, I_l101, I_l120, I_l200, I_l201, I_l1999, I_l2000, I_l2001]
  rw [f9_isWithin (by omega)]
  by_cases q : 48 ≤ at0 S n i ∧ at0 S n i ≤ 57
  · rw [if_pos q]
    simp (disch := omega) only [if_true, if_false, I_add, I_sub, I_mul, I_neg, I_ofNat, Option.bind_some, kIn, I_l0, I_l1, I_l2, I_l3, I_l4, I_l5, I_l6, I_l7, I_l8, I_l9, I_l10, I_l11, I_l12, I_l13, I_l40, I_l43, I_l44, I_l45, I_l48, I_l57, I_l58, I_l60, I_l61, I_l62, I_l79, I_l80, I_l100, I_l101, I_l120, I_l200, I_l201, I_l1999, I_l2000, I_l2001, I_eq, or_true, true_or]
  · rw [if_neg q]
    simp (disch := omega) only [if_true, if_false, I_add, I_sub, I_mul, I_neg, I_ofNat, Option.bind_some, kIn, I_l0, I_l1, I_l2, I_l3, I_l4, I_l5, I_l6, I_l7, I_l8, I_l9, I_l10, I_l11, I_l12, I_l13, I_l40, I_l43, I_l44, I_l45, I_l48, I_l57, I_l58, I_l60, I_l61, I_l62, I_l79, I_l80, I_l100, I_l101, I_l120, I_l200, I_l201, I_l1999, I_l2000, I_l2001, I_eq, or_true, true_or]
theorem f8_takeDigit {S : Int → Int} {n p v : Int} (h : (0 ≤ n ∧ n ≤ 80) ∧ 0 ≤ p ∧ p < n) (hS : ∀ i, 0 ≤ i → i < n → 0 ≤ S i ∧ S i ≤ 65535) : pX8_takeDigit (cz S) (I n) (I p) (I v) = some (I (p + 1), I (10 * v + S p - 48)) := by
  unfold pX8_takeDigit
  rw [f8_signAt (by omega) hS, at0_in (by omega)]
  simp only [if_true, if_false, I_add, I_sub, I_mul, I_neg, I_ofNat, Option.bind_some, kIn, I_l0, I_l1, I_l2, I_l3, I_l4, I_l5, I_l6, I_l7, I_l8, I_l9, I_l10, I_l11, I_l12, I_l13, I_l40, I_l43, I_l44, I_l45, I_l48, I_l57, I_l58, I_l60, I_l61, I_l62, I_l79, I_l80, I_l100, I_l101, I_l120, I_l200, I_l201, I_l1999, I_l2000, I_l2001]
-- a number read from a place where there is no fault yet: place, fault, value
def dgt (S : Int → Int) (n i : Int) : Prop := 48 ≤ at0 S n i ∧ at0 S n i ≤ 57
theorem dgt_in {S : Int → Int} {n i : Int} (h : dgt S n i) : 0 ≤ i ∧ i < n := by
  by_cases q : 0 ≤ i ∧ i < n
  · exact q
  · unfold dgt at h
    rw [at0_out q] at h
    omega
-- the three ways in which a number can end, from the place p
def nuF (S : Int → Int) (n p p2 f2 v : Int) : Prop :=
  (¬ (49 ≤ at0 S n p ∧ at0 S n p ≤ 57) ∧ p2 = p ∧ f2 = p ∧ v = 0) ∨
  ((49 ≤ at0 S n p ∧ at0 S n p ≤ 57) ∧ ¬ dgt S n (p + 1) ∧ p2 = p + 1 ∧ f2 = -1 ∧ v = S p - 48) ∨
  ((49 ≤ at0 S n p ∧ at0 S n p ≤ 57) ∧ dgt S n (p + 1) ∧ ¬ dgt S n (p + 2) ∧ p2 = p + 2 ∧ f2 = -1 ∧ v = 10 * (S p - 48) + S (p + 1) - 48) ∨
  ((49 ≤ at0 S n p ∧ at0 S n p ≤ 57) ∧ dgt S n (p + 1) ∧ dgt S n (p + 2) ∧ p2 = p + 2 ∧ f2 = p + 2 ∧ v = 10 * (S p - 48) + S (p + 1) - 48)
theorem nuF_ex (S : Int → Int) (n p : Int) : ∃ p2 f2 v, nuF S n p p2 f2 v := by
  by_cases h1 : 49 ≤ at0 S n p ∧ at0 S n p ≤ 57
  · by_cases h2 : dgt S n (p + 1)
    · by_cases h3 : dgt S n (p + 2)
      · exact ⟨_, _, _, Or.inr (Or.inr (Or.inr ⟨h1, h2, h3, rfl, rfl, rfl⟩))⟩
      · exact ⟨_, _, _, Or.inr (Or.inr (Or.inl ⟨h1, h2, h3, rfl, rfl, rfl⟩))⟩
    · exact ⟨_, _, _, Or.inr (Or.inl ⟨h1, h2, rfl, rfl, rfl⟩)⟩
  · exact ⟨_, _, _, Or.inl ⟨h1, rfl, rfl, rfl⟩⟩
theorem nuF_bd {S : Int → Int} {n p p2 f2 v : Int} (h0 : 0 ≤ p ∧ p ≤ n) (h : nuF S n p p2 f2 v) : (p ≤ p2 ∧ p2 ≤ n) ∧ (0 ≤ v ∧ v ≤ 99) ∧ ((f2 = -1 ∧ p < p2 ∧ 1 ≤ v) ∨ (f2 = p2)) := by
  rcases h with ⟨h1, h2, h3, h4⟩ | ⟨h1, h2, h3, h4, h5⟩ | ⟨h1, h2, h3, h4, h5, h6⟩ | ⟨h1, h2, h3, h4, h5, h6⟩
  · omega
  · have q1 := dgt_in (S := S) (n := n) (i := p) (by unfold dgt; omega)
    rw [at0_in q1] at h1
    omega
  · have q1 := dgt_in (S := S) (n := n) (i := p) (by unfold dgt; omega)
    have q2 := dgt_in h2
    rw [at0_in q1] at h1
    unfold dgt at h2
    rw [at0_in q2] at h2
    omega
  · have q1 := dgt_in (S := S) (n := n) (i := p) (by unfold dgt; omega)
    have q2 := dgt_in h2
    rw [at0_in q1] at h1
    unfold dgt at h2
    rw [at0_in q2] at h2
    omega
theorem f8_readNumber {S : Int → Int} {n p p2 f2 v : Int} (h : (0 ≤ n ∧ n ≤ 80) ∧ 0 ≤ p ∧ p ≤ n) (hS : ∀ i, 0 ≤ i → i < n → 0 ≤ S i ∧ S i ≤ 65535) (hn : nuF S n p p2 f2 v) : pX8_readNumber (cz S) (I n) (I p) (I (-1)) = some (I p2, I f2, I v, I p) := by
  unfold pX8_readNumber pX8_readNumber_j61
  simp only [if_true, if_false, I_add, I_sub, I_mul, I_neg, I_ofNat, Option.bind_some, kIn, I_l0, I_l1, I_l2, I_l3, I_l4, I_l5, I_l6, I_l7, I_l8, I_l9, I_l10, I_l11, I_l12, I_l13, I_l40, I_l43, I_l44, I_l45, I_l48, I_l57, I_l58, I_l60, I_l61, I_l62, I_l79, I_l80, I_l100, I_l101, I_l120, I_l200, I_l201, I_l1999, I_l2000, I_l2001]
  rw [f8_isDigit (by omega) hS, f8_stands (by omega) hS, f8_failAt (by omega), flt_1]
  rcases hn with ⟨h1, h2, h3, h4⟩ | ⟨h1, h2, h3, h4, h5⟩ | ⟨h1, h2, h3, h4, h5, h6⟩ | ⟨h1, h2, h3, h4, h5, h6⟩
  · rw [h2, h3, h4]
    by_cases q : 48 ≤ at0 S n p ∧ at0 S n p ≤ 57
    · have q1 := dgt_in (S := S) (n := n) (i := p) q
      have q2 : S p = 48 := by rw [at0_in q1] at h1 q; omega
      rw [if_pos q, if_pos (by omega)]
      simp (disch := omega) only [if_true, if_false, I_add, I_sub, I_mul, I_neg, I_ofNat, Option.bind_some, kIn, I_l0, I_l1, I_l2, I_l3, I_l4, I_l5, I_l6, I_l7, I_l8, I_l9, I_l10, I_l11, I_l12, I_l13, I_l40, I_l43, I_l44, I_l45, I_l48, I_l57, I_l58, I_l60, I_l61, I_l62, I_l79, I_l80, I_l100, I_l101, I_l120, I_l200, I_l201, I_l1999, I_l2000, I_l2001, I_eq, if_neg]
    · rw [if_neg q]
      simp (disch := omega) only [if_true, if_false, I_add, I_sub, I_mul, I_neg, I_ofNat, Option.bind_some, kIn, I_l0, I_l1, I_l2, I_l3, I_l4, I_l5, I_l6, I_l7, I_l8, I_l9, I_l10, I_l11, I_l12, I_l13, I_l40, I_l43, I_l44, I_l45, I_l48, I_l57, I_l58, I_l60, I_l61, I_l62, I_l79, I_l80, I_l100, I_l101, I_l120, I_l200, I_l201, I_l1999, I_l2000, I_l2001, I_eq, if_pos]
  · subst h3 h4 h5
    unfold dgt at h2
    have q1 := dgt_in (S := S) (n := n) (i := p) (by unfold dgt; omega)
    rw [if_pos (by omega), if_neg (by rw [at0_in q1] at h1; omega), f8_takeDigit (by omega) hS]
    simp (disch := omega) only [if_true, if_false, I_add, I_sub, I_mul, I_neg, I_ofNat, Option.bind_some, kIn, I_l0, I_l1, I_l2, I_l3, I_l4, I_l5, I_l6, I_l7, I_l8, I_l9, I_l10, I_l11, I_l12, I_l13, I_l40, I_l43, I_l44, I_l45, I_l48, I_l57, I_l58, I_l60, I_l61, I_l62, I_l79, I_l80, I_l100, I_l101, I_l120, I_l200, I_l201, I_l1999, I_l2000, I_l2001, I_eq, if_pos, if_neg]
    rw [f8_isDigit (by omega) hS, if_neg h2]
    simp (disch := omega) only [if_true, if_false, I_add, I_sub, I_mul, I_neg, I_ofNat, Option.bind_some, kIn, I_l0, I_l1, I_l2, I_l3, I_l4, I_l5, I_l6, I_l7, I_l8, I_l9, I_l10, I_l11, I_l12, I_l13, I_l40, I_l43, I_l44, I_l45, I_l48, I_l57, I_l58, I_l60, I_l61, I_l62, I_l79, I_l80, I_l100, I_l101, I_l120, I_l200, I_l201, I_l1999, I_l2000, I_l2001, I_eq, if_pos, if_neg]
    rw [show 10 * 0 + S p - 48 = S p - 48 by omega]
  · subst h4 h5 h6
    have q1 := dgt_in (S := S) (n := n) (i := p) (by unfold dgt; omega)
    have q2 := dgt_in h2
    unfold dgt at h2 h3
    rw [if_pos (by omega), if_neg (by rw [at0_in q1] at h1; omega), f8_takeDigit (by omega) hS]
    simp (disch := omega) only [if_true, if_false, I_add, I_sub, I_mul, I_neg, I_ofNat, Option.bind_some, kIn, I_l0, I_l1, I_l2, I_l3, I_l4, I_l5, I_l6, I_l7, I_l8, I_l9, I_l10, I_l11, I_l12, I_l13, I_l40, I_l43, I_l44, I_l45, I_l48, I_l57, I_l58, I_l60, I_l61, I_l62, I_l79, I_l80, I_l100, I_l101, I_l120, I_l200, I_l201, I_l1999, I_l2000, I_l2001, I_eq, if_pos, if_neg]
    rw [f8_isDigit (by omega) hS, if_pos h2, f8_takeDigit (by omega) hS]
    simp (disch := omega) only [if_true, if_false, I_add, I_sub, I_mul, I_neg, I_ofNat, Option.bind_some, kIn, I_l0, I_l1, I_l2, I_l3, I_l4, I_l5, I_l6, I_l7, I_l8, I_l9, I_l10, I_l11, I_l12, I_l13, I_l40, I_l43, I_l44, I_l45, I_l48, I_l57, I_l58, I_l60, I_l61, I_l62, I_l79, I_l80, I_l100, I_l101, I_l120, I_l200, I_l201, I_l1999, I_l2000, I_l2001, I_eq, if_pos, if_neg]
    rw [show p + 1 + 1 = p + 2 by omega, f8_isDigit (by omega) hS, if_neg h3]
    simp (disch := omega) only [if_true, if_false, I_add, I_sub, I_mul, I_neg, I_ofNat, Option.bind_some, kIn, I_l0, I_l1, I_l2, I_l3, I_l4, I_l5, I_l6, I_l7, I_l8, I_l9, I_l10, I_l11, I_l12, I_l13, I_l40, I_l43, I_l44, I_l45, I_l48, I_l57, I_l58, I_l60, I_l61, I_l62, I_l79, I_l80, I_l100, I_l101, I_l120, I_l200, I_l201, I_l1999, I_l2000, I_l2001, I_eq, if_pos, if_neg]
    rw [show 10 * (10 * 0 + S p - 48) + S (p + 1) - 48 = 10 * (S p - 48) + S (p + 1) - 48 by omega]
  · subst h4 h5 h6
    have q1 := dgt_in (S := S) (n := n) (i := p) (by unfold dgt; omega)
    have q2 := dgt_in h2
    unfold dgt at h2 h3
    rw [if_pos (by omega), if_neg (by rw [at0_in q1] at h1; omega), f8_takeDigit (by omega) hS]
    simp (disch := omega) only [if_true, if_false, I_add, I_sub, I_mul, I_neg, I_ofNat, Option.bind_some, kIn, I_l0, I_l1, I_l2, I_l3, I_l4, I_l5, I_l6, I_l7, I_l8, I_l9, I_l10, I_l11, I_l12, I_l13, I_l40, I_l43, I_l44, I_l45, I_l48, I_l57, I_l58, I_l60, I_l61, I_l62, I_l79, I_l80, I_l100, I_l101, I_l120, I_l200, I_l201, I_l1999, I_l2000, I_l2001, I_eq, if_pos, if_neg]
    rw [f8_isDigit (by omega) hS, if_pos h2, f8_takeDigit (by omega) hS]
    simp (disch := omega) only [if_true, if_false, I_add, I_sub, I_mul, I_neg, I_ofNat, Option.bind_some, kIn, I_l0, I_l1, I_l2, I_l3, I_l4, I_l5, I_l6, I_l7, I_l8, I_l9, I_l10, I_l11, I_l12, I_l13, I_l40, I_l43, I_l44, I_l45, I_l48, I_l57, I_l58, I_l60, I_l61, I_l62, I_l79, I_l80, I_l100, I_l101, I_l120, I_l200, I_l201, I_l1999, I_l2000, I_l2001, I_eq, if_pos, if_neg]
    rw [show p + 1 + 1 = p + 2 by omega, f8_isDigit (by omega) hS, if_pos h3, f8_failAt (by omega), flt_1]
    simp (disch := omega) only [if_true, if_false, I_add, I_sub, I_mul, I_neg, I_ofNat, Option.bind_some, kIn, I_l0, I_l1, I_l2, I_l3, I_l4, I_l5, I_l6, I_l7, I_l8, I_l9, I_l10, I_l11, I_l12, I_l13, I_l40, I_l43, I_l44, I_l45, I_l48, I_l57, I_l58, I_l60, I_l61, I_l62, I_l79, I_l80, I_l100, I_l101, I_l120, I_l200, I_l201, I_l1999, I_l2000, I_l2001, I_eq, if_pos, if_neg]
    rw [show 10 * (10 * 0 + S p - 48) + S (p + 1) - 48 = 10 * (S p - 48) + S (p + 1) - 48 by omega]
-- a number read behind a fault: the fault stays
theorem f8_readNumberB {S : Int → Int} {n p f : Int} (h : (0 ≤ n ∧ n ≤ 80) ∧ (0 ≤ p ∧ p ≤ n) ∧ 0 ≤ f ∧ f ≤ 80) (hS : ∀ i, 0 ≤ i → i < n → 0 ≤ S i ∧ S i ≤ 65535) : ∃ p2 v, (0 ≤ p2 ∧ p2 ≤ n) ∧ (0 ≤ v ∧ v ≤ 99) ∧ pX8_readNumber (cz S) (I n) (I p) (I f) = some (I p2, I f, I v, I p) := by
  unfold pX8_readNumber pX8_readNumber_j61
  simp only [if_true, if_false, I_add, I_sub, I_mul, I_neg, I_ofNat, Option.bind_some, kIn, I_l0, I_l1, I_l2, I_l3, I_l4, I_l5, I_l6, I_l7, I_l8, I_l9, I_l10, I_l11, I_l12, I_l13, I_l40, I_l43, I_l44, I_l45, I_l48, I_l57, I_l58, I_l60, I_l61, I_l62, I_l79, I_l80, I_l100, I_l101, I_l120, I_l200, I_l201, I_l1999, I_l2000, I_l2001]
  rw [f8_isDigit (by omega) hS, f8_standsB (by omega) hS, f8_failAt (by omega), flt_2 (by omega)]
  by_cases q : 48 ≤ at0 S n p ∧ at0 S n p ≤ 57
  · have q1 := dgt_in (S := S) (n := n) (i := p) q
    have q3 := q
    rw [at0_in q1] at q3
    rw [if_pos q, f8_takeDigit (by omega) hS]
    simp (disch := omega) only [if_true, if_false, I_add, I_sub, I_mul, I_neg, I_ofNat, Option.bind_some, kIn, I_l0, I_l1, I_l2, I_l3, I_l4, I_l5, I_l6, I_l7, I_l8, I_l9, I_l10, I_l11, I_l12, I_l13, I_l40, I_l43, I_l44, I_l45, I_l48, I_l57, I_l58, I_l60, I_l61, I_l62, I_l79, I_l80, I_l100, I_l101, I_l120, I_l200, I_l201, I_l1999, I_l2000, I_l2001, I_eq, if_pos, if_neg]
    rw [f8_isDigit (by omega) hS]
    by_cases q2 : 48 ≤ at0 S n (p + 1) ∧ at0 S n (p + 1) ≤ 57
    · have q4 := dgt_in (S := S) (n := n) (i := p + 1) q2
      have q5 := q2
      rw [at0_in q4] at q5
      rw [if_pos q2, f8_takeDigit (by omega) hS]
      simp (disch := omega) only [if_true, if_false, I_add, I_sub, I_mul, I_neg, I_ofNat, Option.bind_some, kIn, I_l0, I_l1, I_l2, I_l3, I_l4, I_l5, I_l6, I_l7, I_l8, I_l9, I_l10, I_l11, I_l12, I_l13, I_l40, I_l43, I_l44, I_l45, I_l48, I_l57, I_l58, I_l60, I_l61, I_l62, I_l79, I_l80, I_l100, I_l101, I_l120, I_l200, I_l201, I_l1999, I_l2000, I_l2001, I_eq, if_pos, if_neg]
      rw [f8_isDigit (by omega) hS]
      refine ⟨p + 1 + 1, 10 * (10 * 0 + S p - 48) + S (p + 1) - 48, by omega, by omega, ?_⟩
      split
      · simp (disch := omega) only [if_true, if_false, I_add, I_sub, I_mul, I_neg, I_ofNat, Option.bind_some, kIn, I_l0, I_l1, I_l2, I_l3, I_l4, I_l5, I_l6, I_l7, I_l8, I_l9, I_l10, I_l11, I_l12, I_l13, I_l40, I_l43, I_l44, I_l45, I_l48, I_l57, I_l58, I_l60, I_l61, I_l62, I_l79, I_l80, I_l100, I_l101, I_l120, I_l200, I_l201, I_l1999, I_l2000, I_l2001, I_eq, if_neg]
        rw [f8_failAt (by omega), flt_2 (by omega)]
        rfl
      · simp (disch := omega) only [if_true, if_false, I_add, I_sub, I_mul, I_neg, I_ofNat, Option.bind_some, kIn, I_l0, I_l1, I_l2, I_l3, I_l4, I_l5, I_l6, I_l7, I_l8, I_l9, I_l10, I_l11, I_l12, I_l13, I_l40, I_l43, I_l44, I_l45, I_l48, I_l57, I_l58, I_l60, I_l61, I_l62, I_l79, I_l80, I_l100, I_l101, I_l120, I_l200, I_l201, I_l1999, I_l2000, I_l2001, I_eq, if_pos]
    · rw [if_neg q2]
      simp (disch := omega) only [if_true, if_false, I_add, I_sub, I_mul, I_neg, I_ofNat, Option.bind_some, kIn, I_l0, I_l1, I_l2, I_l3, I_l4, I_l5, I_l6, I_l7, I_l8, I_l9, I_l10, I_l11, I_l12, I_l13, I_l40, I_l43, I_l44, I_l45, I_l48, I_l57, I_l58, I_l60, I_l61, I_l62, I_l79, I_l80, I_l100, I_l101, I_l120, I_l200, I_l201, I_l1999, I_l2000, I_l2001, I_eq, if_pos, if_neg]
      exact ⟨p + 1, 10 * 0 + S p - 48, by omega, by omega, rfl⟩
  · rw [if_neg q]
    refine ⟨p, 0, by omega, by omega, ?_⟩
    simp (disch := omega) only [if_true, if_false, I_add, I_sub, I_mul, I_neg, I_ofNat, Option.bind_some, kIn, I_l0, I_l1, I_l2, I_l3, I_l4, I_l5, I_l6, I_l7, I_l8, I_l9, I_l10, I_l11, I_l12, I_l13, I_l40, I_l43, I_l44, I_l45, I_l48, I_l57, I_l58, I_l60, I_l61, I_l62, I_l79, I_l80, I_l100, I_l101, I_l120, I_l200, I_l201, I_l1999, I_l2000, I_l2001, I_eq, if_pos]

