-- what a reference reaches (printed by wip/p24/fun/mk78.py)
def msN (S O : Int → Int) (fi la : Int) : Nat → Int × Int × Int × Int × Int
  | 0 => (0, -5, -5, 0, 0)
  | n + 1 => if 0 < S n ∧ Sm S n ≤ la ∧ fi < Sm S n + S n then ((msN S O fi la n).1 + 1, (if O n = 0 then (msN S O fi la n).2.1 else if (msN S O fi la n).2.2.2.1 = 0 then Sm O n else (msN S O fi la n).2.1), (if O n = 0 then (msN S O fi la n).2.2.1 else Sm O n + O n - 1), (msN S O fi la n).2.2.2.1 + O n, (msN S O fi la n).2.2.2.2 + S n) else msN S O fi la n
def m2 (S O : Int → Int) (fi la k : Int) : Int := (msN S O fi la k.toNat).1
def m3 (S O : Int → Int) (fi la k : Int) : Int := (msN S O fi la k.toNat).2.1
def m4 (S O : Int → Int) (fi la k : Int) : Int := (msN S O fi la k.toNat).2.2.1
def m5 (S O : Int → Int) (fi la k : Int) : Int := (msN S O fi la k.toNat).2.2.2.1
def m6 (S O : Int → Int) (fi la k : Int) : Int := (msN S O fi la k.toNat).2.2.2.2
section MS
variable {S O : Int → Int} {fi la : Int}
theorem ms_0 : m2 S O fi la 0 = 0 ∧ m3 S O fi la 0 = -5 ∧ m4 S O fi la 0 = -5 ∧ m5 S O fi la 0 = 0 ∧ m6 S O fi la 0 = 0 := ⟨rfl, rfl, rfl, rfl, rfl⟩
theorem ms_Y {k : Int} (hk : 0 ≤ k) (h : 0 < S k ∧ Sm S k ≤ la ∧ fi < Sm S k + S k) : m2 S O fi la (k + 1) = m2 S O fi la k + 1 ∧ m3 S O fi la (k + 1) = (if O k = 0 then m3 S O fi la k else if m5 S O fi la k = 0 then Sm O k else m3 S O fi la k) ∧ m4 S O fi la (k + 1) = (if O k = 0 then m4 S O fi la k else Sm O k + O k - 1) ∧ m5 S O fi la (k + 1) = m5 S O fi la k + O k ∧ m6 S O fi la (k + 1) = m6 S O fi la k + S k := by
  obtain ⟨n, rfl⟩ : ∃ n : Nat, k = n := ⟨k.toNat, by omega⟩
  have e1 : ((n : Int) + 1).toNat = n + 1 := by omega
  have e2 : (n : Int).toNat = n := Int.toNat_natCast n
  unfold m2 m3 m4 m5 m6
  rw [e1, e2]
  have e : msN S O fi la (n + 1) = _ := if_pos h
  rw [e]
  exact ⟨rfl, rfl, rfl, rfl, rfl⟩
theorem ms_N {k : Int} (hk : 0 ≤ k) (h : ¬ (0 < S k ∧ Sm S k ≤ la ∧ fi < Sm S k + S k)) : m2 S O fi la (k + 1) = m2 S O fi la k ∧ m3 S O fi la (k + 1) = m3 S O fi la k ∧ m4 S O fi la (k + 1) = m4 S O fi la k ∧ m5 S O fi la (k + 1) = m5 S O fi la k ∧ m6 S O fi la (k + 1) = m6 S O fi la k := by
  obtain ⟨n, rfl⟩ : ∃ n : Nat, k = n := ⟨k.toNat, by omega⟩
  have e1 : ((n : Int) + 1).toNat = n + 1 := by omega
  have e2 : (n : Int).toNat = n := Int.toNat_natCast n
  unfold m2 m3 m4 m5 m6
  rw [e1, e2]
  have e : msN S O fi la (n + 1) = msN S O fi la n := if_neg h
  rw [e]
  exact ⟨rfl, rfl, rfl, rfl, rfl⟩
theorem ms_run {a b : Int} (ha : 0 ≤ a) (hab : a ≤ b) (h : ∀ i, a ≤ i → i < b → ¬ (0 < S i ∧ Sm S i ≤ la ∧ fi < Sm S i + S i)) : m2 S O fi la b = m2 S O fi la a ∧ m3 S O fi la b = m3 S O fi la a ∧ m4 S O fi la b = m4 S O fi la a ∧ m5 S O fi la b = m5 S O fi la a ∧ m6 S O fi la b = m6 S O fi la a := by
  refine zindR (P := fun b => (∀ i, a ≤ i → i < b → ¬ (0 < S i ∧ Sm S i ≤ la ∧ fi < Sm S i + S i)) → m2 S O fi la b = m2 S O fi la a ∧ m3 S O fi la b = m3 S O fi la a ∧ m4 S O fi la b = m4 S O fi la a ∧ m5 S O fi la b = m5 S O fi la a ∧ m6 S O fi la b = m6 S O fi la a) a (fun _ => ⟨rfl, rfl, rfl, rfl, rfl⟩) (fun k hk ih h => ?_) b hab h
  have h1 := ih (fun i p q => h i p (by omega))
  have h2 := ms_N (O := O) (by omega) (h k hk (by omega))
  rw [h2.1, h2.2.1, h2.2.2.1, h2.2.2.2.1, h2.2.2.2.2]
  exact h1
theorem ms_bd {g : Int} (hS : ∀ i, 0 ≤ i → i < g → 0 ≤ S i) (hO : ∀ i, 0 ≤ i → i < g → 0 ≤ O i) (k : Int) (h0 : 0 ≤ k) (hk : k ≤ g) : (0 ≤ m2 S O fi la k ∧ m2 S O fi la k ≤ k) ∧ (0 ≤ m6 S O fi la k ∧ m6 S O fi la k ≤ Sm S k) ∧ (0 ≤ m5 S O fi la k ∧ m5 S O fi la k ≤ Sm O k) ∧ ((m5 S O fi la k = 0 ∧ m3 S O fi la k = -5 ∧ m4 S O fi la k = -5) ∨ (0 < m5 S O fi la k ∧ (0 ≤ m3 S O fi la k ∧ m3 S O fi la k ≤ Sm O k) ∧ 0 ≤ m4 S O fi la k ∧ m4 S O fi la k ≤ Sm O k)) := by
  revert hk
  refine zind (P := fun k => k ≤ g → (0 ≤ m2 S O fi la k ∧ m2 S O fi la k ≤ k) ∧ (0 ≤ m6 S O fi la k ∧ m6 S O fi la k ≤ Sm S k) ∧ (0 ≤ m5 S O fi la k ∧ m5 S O fi la k ≤ Sm O k) ∧ ((m5 S O fi la k = 0 ∧ m3 S O fi la k = -5 ∧ m4 S O fi la k = -5) ∨ (0 < m5 S O fi la k ∧ (0 ≤ m3 S O fi la k ∧ m3 S O fi la k ≤ Sm O k) ∧ 0 ≤ m4 S O fi la k ∧ m4 S O fi la k ≤ Sm O k))) (fun _ => ?_) (fun k hk ih hg => ?_) k h0
  · obtain ⟨e1, e2, e3, e4, e5⟩ := ms_0 (S := S) (O := O) (fi := fi) (la := la)
    have := Sm_0 S
    have := Sm_0 O
    omega
  · have i1 := ih (by omega)
    have s1 : Sm S (k + 1) = Sm S k + S k := Sm_s hk
    have s2 : Sm O (k + 1) = Sm O k + O k := Sm_s hk
    have hs := hS k hk (by omega)
    have ho := hO k hk (by omega)
    have n1 := Sm_nn (F := O) hk (fun i a b => hO i a (by omega))
    by_cases z : 0 < S k ∧ Sm S k ≤ la ∧ fi < Sm S k + S k
    · obtain ⟨e1, e2, e3, e4, e5⟩ := ms_Y (O := O) hk z
      rw [e1, e2, e3, e4, e5]
      by_cases z2 : O k = 0
      · rw [if_pos z2, if_pos z2]
        omega
      · rw [if_neg z2, if_neg z2]
        split <;> omega
    · obtain ⟨e1, e2, e3, e4, e5⟩ := ms_N (O := O) hk z
      rw [e1, e2, e3, e4, e5]
      omega
end MS
theorem ms_47 {L R : Int → Int} {g b fi la : Int} (hg : 0 ≤ g ∧ g ≤ 120) (hb : 0 ≤ b ∧ b ≤ 1) (hS : ∀ i, 0 ≤ i → i < g → 0 ≤ sel b L R i) (hO : ∀ i, 0 ≤ i → i < g → 0 ≤ sel (1 - b) L R i) (hb1 : ∀ k, 0 ≤ k → k ≤ g → Sm (sel b L R) k ≤ 60 ∧ Sm (sel (1 - b) L R) k ≤ 60) (hfl : (0 ≤ fi ∧ fi ≤ 1000) ∧ 0 ≤ la ∧ la ≤ 1000) : ∀ (m : Nat) (k : Int), 0 ≤ k → k ≤ g → g - k < m → pX5_measure_L47 (cz L) (cz R) (I g) m (I fi) (I la) (I (m2 (sel b L R) (sel (1 - b) L R) fi la k)) (I (m3 (sel b L R) (sel (1 - b) L R) fi la k)) (I (m4 (sel b L R) (sel (1 - b) L R) fi la k)) (I (m5 (sel b L R) (sel (1 - b) L R) fi la k)) (I (m6 (sel b L R) (sel (1 - b) L R) fi la k)) (I b) (I fi) (I la) (I (Sm (sel b L R) k)) (I (Sm (sel (1 - b) L R) k)) (I k) = some (I fi, I la, I (m2 (sel b L R) (sel (1 - b) L R) fi la g), I (m3 (sel b L R) (sel (1 - b) L R) fi la g), I (m4 (sel b L R) (sel (1 - b) L R) fi la g), I (m5 (sel b L R) (sel (1 - b) L R) fi la g), I (m6 (sel b L R) (sel (1 - b) L R) fi la g)) := by
  intro m
  induction m with
  | zero => intro k h0 h1 h2; omega
  | succ m ih =>
    intro k h0 h1 h2
    by_cases z : k = g
    · have z1 : I g ≤ I k := by rw [I_le (by omega)]; omega
      rw [z]
      rw [z] at z1
      exact if_pos z1
    · have s1 : Sm (sel b L R) (k + 1) = Sm (sel b L R) k + sel b L R k := Sm_s h0
      have s2 : Sm (sel (1 - b) L R) (k + 1) = Sm (sel (1 - b) L R) k + sel (1 - b) L R k := Sm_s h0
      have fin := ih (k + 1) (by omega) (by omega) (by omega)
      have B := ms_bd (fi := fi) (la := la) hS hO k h0 h1
      have n1 := Sm_nn (F := sel b L R) h0 (fun i a b => hS i a (by omega))
      have n2 := Sm_nn (F := sel (1 - b) L R) h0 (fun i a b => hO i a (by omega))
      have a1 := hb1 k h0 h1
      have a2 := hb1 (k + 1) (by omega) (by omega)
      have hs := hS k h0 (by omega)
      have ho := hO k h0 (by omega)
      have c1 := f1_sizeIn (L := L) (R := R) (g := g) (a := k) (b := b) (by omega)
      have c2 := f1_sizeIn (L := L) (R := R) (g := g) (a := k) (b := 1 - b) (by omega)
      have c3 : pX9_otherBook (I b) = some (I (1 - b)) := by
        rw [f9_otherBook (by omega)]
        obtain rfl | rfl : b = 0 ∨ b = 1 := by omega
        · rfl
        · rfl
      have yy := @ms_Y (sel b L R) (sel (1 - b) L R) fi la k h0
      have nn := @ms_N (sel b L R) (sel (1 - b) L R) fi la k h0
      rw [s1, s2] at fin
      rw [s1, s2] at a2
      generalize sel b L R k = x at *
      generalize sel (1 - b) L R k = w at *
      generalize Sm (sel b L R) k = ow at *
      generalize Sm (sel (1 - b) L R) k = ot at *
      show pX5_measure_bL47 _ _ _ _ _ _ _ _ _ _ _ _ _ _ _ _ _ = _
      by_cases q : 0 < x ∧ ow ≤ la ∧ fi < ow + x
      · obtain ⟨e1, e2, e3, e4, e5⟩ := yy q
        rw [e1, e2, e3, e4, e5] at fin
        have t := f5_takeOther (oF := m3 (sel b L R) (sel (1 - b) L R) fi la k) (oL := m4 (sel b L R) (sel (1 - b) L R) fi la k) (oV := m5 (sel b L R) (sel (1 - b) L R) fi la k) (a := ot) (s := w) (by omega)
        unfold pX5_measure_bL47 pX5_measure_j135
        simp (disch := omega) only [if_true, if_false, I_add, I_sub, I_mul, I_neg, I_ofNat, Option.bind_some, kIn, I_l0, I_l1, I_l2, I_l3, I_l4, I_l5, I_l6, I_l7, I_l8, I_l9, I_l10, I_l11, I_l12, I_l13, I_l40, I_l43, I_l44, I_l45, I_l48, I_l57, I_l58, I_l60, I_l61, I_l62, I_l79, I_l80, I_l100, I_l101, I_l120, I_l200, I_l201, I_l1999, I_l2000, I_l2001, I_le, I_lt, if_pos, if_neg, c1, c2, c3, t]
        rw [show m6 (sel b L R) (sel (1 - b) L R) fi la k + (ow + x - ow) = m6 (sel b L R) (sel (1 - b) L R) fi la k + x by omega]
        exact fin
      · obtain ⟨e1, e2, e3, e4, e5⟩ := nn q
        rw [e1, e2, e3, e4, e5] at fin
        unfold pX5_measure_bL47 pX5_measure_j135
        simp (disch := omega) only [if_true, if_false, I_add, I_sub, I_mul, I_neg, I_ofNat, Option.bind_some, kIn, I_l0, I_l1, I_l2, I_l3, I_l4, I_l5, I_l6, I_l7, I_l8, I_l9, I_l10, I_l11, I_l12, I_l13, I_l40, I_l43, I_l44, I_l45, I_l48, I_l57, I_l58, I_l60, I_l61, I_l62, I_l79, I_l80, I_l100, I_l101, I_l120, I_l200, I_l201, I_l1999, I_l2000, I_l2001, I_le, I_lt, if_neg, c1, c2, c3]
        repeat' split
        all_goals first | exact fin | (exfalso; omega)
theorem pr1 {α : Type} {a b : Int32} {r : α} (h : a = b) : (some (a, r) : Option (Int32 × α)) = some (b, r) := by rw [h]
theorem q_refF0 {x : Sg} {c0 l0 o0 : Int → Int} {n0 : Int} {c1 l1 o1 : Int → Int} {n1 : Int} {L R : Int → Int} {g k w0 w1 ph h : Int} (d : dX x c0 l0 o0 n0 c1 l1 o1 n1 L R g k w0 w1 ph h) {T : Int → Int} {t : Int} (ht : tX x T t) {F y : Int} (hF : 0 ≤ F ∧ F ≤ 80) (hy : 0 ≤ y ∧ y ≤ 6) (h6 : ok6 (pX6_read (cz T) (I t) (cz c0) (I n0)) F) : sRefer x (I 0) (I y) = some (I (-100 - F)) := by
  obtain ⟨⟨⟨v0, v1, v2, v3⟩, ⟨v4, v5, v6, v7⟩, v8, v9, v10⟩, ⟨a0, s0, s1, s2, s3, s4⟩, tx, nn, ⟨y0, y1, y2, y3⟩⟩ := x
  obtain ⟨e, ey, k0, k1, kM, hA, hw0, hw1, hph, hh⟩ := d
  simp only [Prod.mk.injEq] at e ey
  obtain ⟨⟨rfl, rfl, rfl, rfl⟩, ⟨rfl, rfl, rfl, rfl⟩, rfl, rfl, rfl⟩ := e
  obtain ⟨rfl, rfl, rfl, rfl⟩ := ey
  have hg := kM.1
  have b0 := k0.1
  have b1 := k1.1
  obtain ⟨et, -, -⟩ := ht
  have et2 : tx = (cz T, I t) := et
  subst et2
  obtain ⟨r0, r1, r2, r3, r4, r5, hR⟩ := h6
  have hne : ¬ I F = (-1 : Int32) := by
    rw [show (-1 : Int32) = I (-1) from rfl, I_eq (by omega)]
    omega
  have hs : (-100 : Int32) - I F = I (-100 - F) := by
    rw [show (-100 : Int32) = I (-100) from rfl, I_sub]
  have e1 : pX9_isBook (I 0) = some (I 1) := rfl
  have e2 : pX9_isWithin (I y) (0 : Int32) (6 : Int32) = some (I 1) := by
    have := f9_isWithin (v := y) (lo := 0) (hi := 6) (by omega)
    rw [if_pos hy] at this
    exact this
  exact nRefer.s (fun z1 z2 z3 z4 z5 z6 z7 z8 z9 z10 z11 z12 z13 => ⟨_, _, _, _, _, _, _, _, _, _, _, _, _, obind e1 ((if_neg (by decide)).trans (obind e2 ((if_neg (by decide)).trans ((if_pos rfl).trans (obind hR ((if_neg hne).trans (pr1 hs)))))))⟩)
theorem q_ref0 {x : Sg} {c0 l0 o0 : Int → Int} {n0 : Int} {c1 l1 o1 : Int → Int} {n1 : Int} {L R : Int → Int} {g k w0 w1 ph h : Int} (d : dX x c0 l0 o0 n0 c1 l1 o1 n1 L R g k w0 w1 ph h) {T : Int → Int} {t : Int} (ht : tX x T t) {fi la y : Int} (hf : 0 ≤ fi ∧ fi ≤ la ∧ la < n0) (hy : 0 ≤ y ∧ y ≤ 6) {r1 r2 r3 r4 : Int32} (hR : pX6_read (cz T) (I t) (cz c0) (I n0) = some (I (-1), I fi, I la, r1, r2, r3, r4)) : sRefer x (I 0) (I y) = some (I (prp y fi la (m2 (sel 0 L R) (sel (1 - 0) L R) fi la g) (m3 (sel 0 L R) (sel (1 - 0) L R) fi la g) (m4 (sel 0 L R) (sel (1 - 0) L R) fi la g) (m5 (sel 0 L R) (sel (1 - 0) L R) fi la g) (m6 (sel 0 L R) (sel (1 - 0) L R) fi la g))) := by
  obtain ⟨⟨⟨v0, v1, v2, v3⟩, ⟨v4, v5, v6, v7⟩, v8, v9, v10⟩, ⟨a0, s0, s1, s2, s3, s4⟩, tx, nn, ⟨y0, y1, y2, y3⟩⟩ := x
  obtain ⟨e, ey, k0, k1, kM, hA, hw0, hw1, hph, hh⟩ := d
  simp only [Prod.mk.injEq] at e ey
  obtain ⟨⟨rfl, rfl, rfl, rfl⟩, ⟨rfl, rfl, rfl, rfl⟩, rfl, rfl, rfl⟩ := e
  obtain ⟨rfl, rfl, rfl, rfl⟩ := ey
  have hg := kM.1
  have b0 := k0.1
  have b1 := k1.1
  obtain ⟨et, -, -⟩ := ht
  have et2 : tx = (cz T, I t) := et
  subst et2
  have e1 : pX9_isBook (I 0) = some (I 1) := rfl
  have e2 : pX9_isWithin (I y) (0 : Int32) (6 : Int32) = some (I 1) := by
    have := f9_isWithin (v := y) (lo := 0) (hi := 6) (by omega)
    rw [if_pos hy] at this
    exact this
  have hS : ∀ i, 0 ≤ i → i < g → 0 ≤ sel 0 L R i := fun i a z => (okM_S (b := 0) kM i a z).1
  have hO : ∀ i, 0 ≤ i → i < g → 0 ≤ sel (1 - 0) L R i := fun i a z => (okM_S (b := 1 - 0) kM i a z).1
  have hbd : ∀ k, 0 ≤ k → k ≤ g → Sm (sel 0 L R) k ≤ 60 ∧ Sm (sel (1 - 0) L R) k ≤ 60 := fun k a z => by
    have h1 := sm_in (S := sel 0 L R) hS (n := n0) kM.2.2.1 (i := k) ⟨a, z⟩
    have h2 := sm_in (S := sel (1 - 0) L R) hO (n := n1) kM.2.2.2 (i := k) ⟨a, z⟩
    omega
  have e3 : pX5_measure (cz L) (cz R) (I g) (I 0) (I fi) (I la) = some (I fi, I la, I (m2 (sel 0 L R) (sel (1 - 0) L R) fi la g), I (m3 (sel 0 L R) (sel (1 - 0) L R) fi la g), I (m4 (sel 0 L R) (sel (1 - 0) L R) fi la g), I (m5 (sel 0 L R) (sel (1 - 0) L R) fi la g), I (m6 (sel 0 L R) (sel (1 - 0) L R) fi la g)) := ms_47 (b := 0) hg (by omega) hS hO hbd (by omega) 4000 0 (by omega) (by omega) (by omega)
  have B := ms_bd (fi := fi) (la := la) hS hO g (by omega) (Int.le_refl _)
  have hb2 := hbd g (by omega) (Int.le_refl _)
  have e4 := f5_property (y := y) (fi := fi) (la := la) (E2 := m2 (sel 0 L R) (sel (1 - 0) L R) fi la g) (E3 := m3 (sel 0 L R) (sel (1 - 0) L R) fi la g) (E4 := m4 (sel 0 L R) (sel (1 - 0) L R) fi la g) (E5 := m5 (sel 0 L R) (sel (1 - 0) L R) fi la g) (E6 := m6 (sel 0 L R) (sel (1 - 0) L R) fi la g) hy (by omega)
  exact nRefer.s (fun z1 z2 z3 z4 z5 z6 z7 z8 z9 z10 z11 z12 z13 => ⟨_, _, _, _, _, _, _, _, _, _, _, _, _, obind e1 ((if_neg (by decide)).trans (obind e2 ((if_neg (by decide)).trans ((if_pos rfl).trans (obind hR ((if_pos rfl).trans (obind e3 (obind e4 rfl))))))))⟩)
theorem q_refW0 {x : Sg} {c0 l0 o0 : Int → Int} {n0 : Int} {c1 l1 o1 : Int → Int} {n1 : Int} {L R : Int → Int} {g k w0 w1 ph h : Int} (d : dX x c0 l0 o0 n0 c1 l1 o1 n1 L R g k w0 w1 ph h) : sRefer x (I 0) (I 7) = some (I (-2)) := by
  obtain ⟨⟨⟨v0, v1, v2, v3⟩, ⟨v4, v5, v6, v7⟩, v8, v9, v10⟩, ⟨a0, s0, s1, s2, s3, s4⟩, tx, nn, ⟨y0, y1, y2, y3⟩⟩ := x
  obtain ⟨e, ey, k0, k1, kM, hA, hw0, hw1, hph, hh⟩ := d
  simp only [Prod.mk.injEq] at e ey
  obtain ⟨⟨rfl, rfl, rfl, rfl⟩, ⟨rfl, rfl, rfl, rfl⟩, rfl, rfl, rfl⟩ := e
  obtain ⟨rfl, rfl, rfl, rfl⟩ := ey
  have hg := kM.1
  have b0 := k0.1
  have b1 := k1.1
  have e1 : pX9_isBook (I 0) = some (I 1) := rfl
  have e2 : pX9_isWithin (I 7) (0 : Int32) (6 : Int32) = some (I 0) := rfl
  exact nRefer.s (fun z1 z2 z3 z4 z5 z6 z7 z8 z9 z10 z11 z12 z13 => ⟨_, _, _, _, _, _, _, _, _, _, _, _, _, obind e1 ((if_neg (by decide)).trans (obind e2 (if_pos rfl)))⟩)
theorem q_refF1 {x : Sg} {c0 l0 o0 : Int → Int} {n0 : Int} {c1 l1 o1 : Int → Int} {n1 : Int} {L R : Int → Int} {g k w0 w1 ph h : Int} (d : dX x c0 l0 o0 n0 c1 l1 o1 n1 L R g k w0 w1 ph h) {T : Int → Int} {t : Int} (ht : tX x T t) {F y : Int} (hF : 0 ≤ F ∧ F ≤ 80) (hy : 0 ≤ y ∧ y ≤ 6) (h6 : ok6 (pX6_read (cz T) (I t) (cz c1) (I n1)) F) : sRefer x (I 1) (I y) = some (I (-100 - F)) := by
  obtain ⟨⟨⟨v0, v1, v2, v3⟩, ⟨v4, v5, v6, v7⟩, v8, v9, v10⟩, ⟨a0, s0, s1, s2, s3, s4⟩, tx, nn, ⟨y0, y1, y2, y3⟩⟩ := x
  obtain ⟨e, ey, k0, k1, kM, hA, hw0, hw1, hph, hh⟩ := d
  simp only [Prod.mk.injEq] at e ey
  obtain ⟨⟨rfl, rfl, rfl, rfl⟩, ⟨rfl, rfl, rfl, rfl⟩, rfl, rfl, rfl⟩ := e
  obtain ⟨rfl, rfl, rfl, rfl⟩ := ey
  have hg := kM.1
  have b0 := k0.1
  have b1 := k1.1
  obtain ⟨et, -, -⟩ := ht
  have et2 : tx = (cz T, I t) := et
  subst et2
  obtain ⟨r0, r1, r2, r3, r4, r5, hR⟩ := h6
  have hne : ¬ I F = (-1 : Int32) := by
    rw [show (-1 : Int32) = I (-1) from rfl, I_eq (by omega)]
    omega
  have hs : (-100 : Int32) - I F = I (-100 - F) := by
    rw [show (-100 : Int32) = I (-100) from rfl, I_sub]
  have e1 : pX9_isBook (I 1) = some (I 1) := rfl
  have e2 : pX9_isWithin (I y) (0 : Int32) (6 : Int32) = some (I 1) := by
    have := f9_isWithin (v := y) (lo := 0) (hi := 6) (by omega)
    rw [if_pos hy] at this
    exact this
  exact nRefer.s (fun z1 z2 z3 z4 z5 z6 z7 z8 z9 z10 z11 z12 z13 => ⟨_, _, _, _, _, _, _, _, _, _, _, _, _, obind e1 ((if_neg (by decide)).trans (obind e2 ((if_neg (by decide)).trans ((if_neg (by decide)).trans (obind hR ((if_neg hne).trans (pr1 hs)))))))⟩)
theorem q_ref1 {x : Sg} {c0 l0 o0 : Int → Int} {n0 : Int} {c1 l1 o1 : Int → Int} {n1 : Int} {L R : Int → Int} {g k w0 w1 ph h : Int} (d : dX x c0 l0 o0 n0 c1 l1 o1 n1 L R g k w0 w1 ph h) {T : Int → Int} {t : Int} (ht : tX x T t) {fi la y : Int} (hf : 0 ≤ fi ∧ fi ≤ la ∧ la < n1) (hy : 0 ≤ y ∧ y ≤ 6) {r1 r2 r3 r4 : Int32} (hR : pX6_read (cz T) (I t) (cz c1) (I n1) = some (I (-1), I fi, I la, r1, r2, r3, r4)) : sRefer x (I 1) (I y) = some (I (prp y fi la (m2 (sel 1 L R) (sel (1 - 1) L R) fi la g) (m3 (sel 1 L R) (sel (1 - 1) L R) fi la g) (m4 (sel 1 L R) (sel (1 - 1) L R) fi la g) (m5 (sel 1 L R) (sel (1 - 1) L R) fi la g) (m6 (sel 1 L R) (sel (1 - 1) L R) fi la g))) := by
  obtain ⟨⟨⟨v0, v1, v2, v3⟩, ⟨v4, v5, v6, v7⟩, v8, v9, v10⟩, ⟨a0, s0, s1, s2, s3, s4⟩, tx, nn, ⟨y0, y1, y2, y3⟩⟩ := x
  obtain ⟨e, ey, k0, k1, kM, hA, hw0, hw1, hph, hh⟩ := d
  simp only [Prod.mk.injEq] at e ey
  obtain ⟨⟨rfl, rfl, rfl, rfl⟩, ⟨rfl, rfl, rfl, rfl⟩, rfl, rfl, rfl⟩ := e
  obtain ⟨rfl, rfl, rfl, rfl⟩ := ey
  have hg := kM.1
  have b0 := k0.1
  have b1 := k1.1
  obtain ⟨et, -, -⟩ := ht
  have et2 : tx = (cz T, I t) := et
  subst et2
  have e1 : pX9_isBook (I 1) = some (I 1) := rfl
  have e2 : pX9_isWithin (I y) (0 : Int32) (6 : Int32) = some (I 1) := by
    have := f9_isWithin (v := y) (lo := 0) (hi := 6) (by omega)
    rw [if_pos hy] at this
    exact this
  have hS : ∀ i, 0 ≤ i → i < g → 0 ≤ sel 1 L R i := fun i a z => (okM_S (b := 1) kM i a z).1
  have hO : ∀ i, 0 ≤ i → i < g → 0 ≤ sel (1 - 1) L R i := fun i a z => (okM_S (b := 1 - 1) kM i a z).1
  have hbd : ∀ k, 0 ≤ k → k ≤ g → Sm (sel 1 L R) k ≤ 60 ∧ Sm (sel (1 - 1) L R) k ≤ 60 := fun k a z => by
    have h1 := sm_in (S := sel 1 L R) hS (n := n1) kM.2.2.2 (i := k) ⟨a, z⟩
    have h2 := sm_in (S := sel (1 - 1) L R) hO (n := n0) kM.2.2.1 (i := k) ⟨a, z⟩
    omega
  have e3 : pX5_measure (cz L) (cz R) (I g) (I 1) (I fi) (I la) = some (I fi, I la, I (m2 (sel 1 L R) (sel (1 - 1) L R) fi la g), I (m3 (sel 1 L R) (sel (1 - 1) L R) fi la g), I (m4 (sel 1 L R) (sel (1 - 1) L R) fi la g), I (m5 (sel 1 L R) (sel (1 - 1) L R) fi la g), I (m6 (sel 1 L R) (sel (1 - 1) L R) fi la g)) := ms_47 (b := 1) hg (by omega) hS hO hbd (by omega) 4000 0 (by omega) (by omega) (by omega)
  have B := ms_bd (fi := fi) (la := la) hS hO g (by omega) (Int.le_refl _)
  have hb2 := hbd g (by omega) (Int.le_refl _)
  have e4 := f5_property (y := y) (fi := fi) (la := la) (E2 := m2 (sel 1 L R) (sel (1 - 1) L R) fi la g) (E3 := m3 (sel 1 L R) (sel (1 - 1) L R) fi la g) (E4 := m4 (sel 1 L R) (sel (1 - 1) L R) fi la g) (E5 := m5 (sel 1 L R) (sel (1 - 1) L R) fi la g) (E6 := m6 (sel 1 L R) (sel (1 - 1) L R) fi la g) hy (by omega)
  exact nRefer.s (fun z1 z2 z3 z4 z5 z6 z7 z8 z9 z10 z11 z12 z13 => ⟨_, _, _, _, _, _, _, _, _, _, _, _, _, obind e1 ((if_neg (by decide)).trans (obind e2 ((if_neg (by decide)).trans ((if_neg (by decide)).trans (obind hR ((if_pos rfl).trans (obind e3 (obind e4 rfl))))))))⟩)
theorem q_refW1 {x : Sg} {c0 l0 o0 : Int → Int} {n0 : Int} {c1 l1 o1 : Int → Int} {n1 : Int} {L R : Int → Int} {g k w0 w1 ph h : Int} (d : dX x c0 l0 o0 n0 c1 l1 o1 n1 L R g k w0 w1 ph h) : sRefer x (I 1) (I 7) = some (I (-2)) := by
  obtain ⟨⟨⟨v0, v1, v2, v3⟩, ⟨v4, v5, v6, v7⟩, v8, v9, v10⟩, ⟨a0, s0, s1, s2, s3, s4⟩, tx, nn, ⟨y0, y1, y2, y3⟩⟩ := x
  obtain ⟨e, ey, k0, k1, kM, hA, hw0, hw1, hph, hh⟩ := d
  simp only [Prod.mk.injEq] at e ey
  obtain ⟨⟨rfl, rfl, rfl, rfl⟩, ⟨rfl, rfl, rfl, rfl⟩, rfl, rfl, rfl⟩ := e
  obtain ⟨rfl, rfl, rfl, rfl⟩ := ey
  have hg := kM.1
  have b0 := k0.1
  have b1 := k1.1
  have e1 : pX9_isBook (I 1) = some (I 1) := rfl
  have e2 : pX9_isWithin (I 7) (0 : Int32) (6 : Int32) = some (I 0) := rfl
  exact nRefer.s (fun z1 z2 z3 z4 z5 z6 z7 z8 z9 z10 z11 z12 z13 => ⟨_, _, _, _, _, _, _, _, _, _, _, _, _, obind e1 ((if_neg (by decide)).trans (obind e2 (if_pos rfl)))⟩)
theorem q_ref2 {x : Sg} {i2 : Int32} : sRefer x (I 2) i2 = some (I (-1)) := by
  have e1 : pX9_isBook (I 2) = some (I 0) := rfl
  exact nRefer.s (fun z1 z2 z3 z4 z5 z6 z7 z8 z9 z10 z11 z12 z13 => ⟨_, _, _, _, _, _, _, _, _, _, _, _, _, obind e1 (if_pos rfl)⟩)
