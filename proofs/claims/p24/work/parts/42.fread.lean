-- out of 62.fread
-- the reference reads its text: numbers, signs; S the class's signs, S2 the reference's
def tx (S S2 : Int → Int) (n : Int) : Prop := (0 ≤ n ∧ n ≤ 80) ∧ ∀ i, 0 ≤ i → i < n → S i = S2 i ∧ 0 ≤ S2 i ∧ S2 i ≤ 65535
theorem tx.s {S S2 : Int → Int} {n : Int} (h : tx S S2 n) : ∀ i, 0 ≤ i → i < n → 0 ≤ S i ∧ S i ≤ 65535 := fun i p q => by have := h.2 i p q; omega
theorem dgt_iff {S : Int → Int} {n p : Int} (hp : 0 ≤ p) : dgt S n p ↔ (p < n ∧ 48 ≤ S p ∧ S p ≤ 57) := by
  constructor
  · intro h
    have q := dgt_in h
    unfold dgt at h
    rw [at0_in q] at h
    exact ⟨q.2, h⟩
  · intro h
    unfold dgt
    rw [at0_in ⟨hp, h.1⟩]
    exact h.2
-- out of 63.frefer
-- a reference read: both sides alike, or both fail at the same place
theorem okB_mono {n : Int} {c l o : Int → Int} (h : okB n c l o) {i k : Int} (hi : 0 ≤ i) (hk : i ≤ k) (hn : k < n) : c i ≤ c k := by
  refine zindR (P := fun k => k < n → c i ≤ c k) i (fun _ => Int.le_refl _) (fun k p ih q => ?_) k hk hn
  have h1 := (h.2 k (by omega) (by omega)).2.2.2.2 q
  have h2 := ih (by omega)
  omega
theorem cnt_s {c : Int → Int} {x k : Int} (h : 0 ≤ k) : cnt c x (k + 1) = cnt c x k + (if c k = x then 1 else 0) := Sm_s h
theorem cnt_le {c : Int → Int} {x j k : Int} (hj : 0 ≤ j) (hk : j ≤ k) (hf : ∀ i, 0 ≤ i → i < j → ¬ c i = x) : cnt c x k ≤ k - j := by
  have h0 : ∀ k, 0 ≤ k → k ≤ j → cnt c x k = 0 := fun k hk => zind (P := fun k => k ≤ j → cnt c x k = 0) (fun _ => Sm_0 _) (fun k p ih q => by rw [cnt_s p, if_neg (hf k p (by omega)), ih (by omega)]; rfl) k hk
  refine zindR (P := fun k => cnt c x k ≤ k - j) j ?_ (fun k p ih => ?_) k hk
  · have := h0 j hj (Int.le_refl _)
    omega
  · have h1 := cnt_s (c := c) (x := x) (k := k) (by omega)
    split at h1 <;> omega
theorem okB_run {n x j v : Int} {c l o : Int → Int} (h : okB n c l o) (hj : isF c x n j) (hv : 1 ≤ v ∧ v ≤ cnt c x n) : j + v - 1 < n ∧ c (j + v - 1) = x := by
  have hj1 := hj.1
  have hj2 := hj.2.1
  have h1 := cnt_le hj.1.1 (k := n) (by omega) hj.2.2
  refine ⟨by omega, ?_⟩
  by_cases z : c (j + v - 1) = x
  · exact z
  · exfalso
    have h2 := cnt_le hj.1.1 (k := j + v - 1) (by omega) hj.2.2
    have h3 := okB_mono h (i := j) (k := j + v - 1) (by omega) (by omega) (by omega)
    have key : ∀ k, j + v - 1 ≤ k → k ≤ n → cnt c x k = cnt c x (j + v - 1) := by
      intro k hk
      refine zindR (P := fun k => k ≤ n → cnt c x k = cnt c x (j + v - 1)) (j + v - 1) (fun _ => rfl) (fun k p ih q => ?_) k hk
      have h4 := okB_mono h (i := j + v - 1) (k := k) (by omega) (by omega) (by omega)
      rw [cnt_s (by omega), if_neg (by omega), ih (by omega)]
      omega
    have h5 := key n (by omega) (by omega)
    omega
theorem cnt_ex {n x v : Int} {c : Int → Int} (hn : 0 ≤ n) (hv : 1 ≤ v ∧ v ≤ cnt c x n) : ∃ j, isF c x n j := by
  by_cases z : ∃ i, 0 ≤ i ∧ i < n ∧ c i = x
  · exact ex_F z
  · have h1 := cnt_le (c := c) (x := x) (j := n) (k := n) hn (Int.le_refl _) (fun i p q t => z ⟨i, p, q, t⟩)
    omega
theorem f0_findG {c l o : Int → Int} {n x v : Int} (h : okB n c l o) (hx : (-2147483648 ≤ x ∧ x ≤ 2147483647) ∧ -2147483648 ≤ v ∧ v ≤ 2147483647) : ∃ r, (-1 ≤ r ∧ r ≤ 200) ∧ pX0_find (cz c) (I n) (I x) (I v) = some (I r) := by
  have hn := h.1
  by_cases z : 1 ≤ v ∧ v ≤ cnt c x n
  · obtain ⟨j, hj⟩ := cnt_ex hn.1 z
    have h2 := okB_run h hj z
    have h3 := hj.1
    exact ⟨j + v - 1, by omega, f0_findY ⟨hn, hj.1⟩ hx (okB_c2 h) hj.2.1 hj.2.2 z⟩
  · exact ⟨-1, by omega, f0_findN hn hx (okB_c2 h) z⟩
theorem f6_chap {c : Int → Int} {nb f v ns least : Int} (hb : 0 ≤ nb ∧ nb ≤ 60) (hT : 0 ≤ at0 c nb (nb - 1) ∧ at0 c nb (nb - 1) ≤ 10) (hf : -1 ≤ f ∧ f ≤ 1000) (hv : -1000 ≤ v ∧ v ≤ 1000) (hl : -1000 ≤ least ∧ least ≤ 1000) : pX6_lookAtChapter (I f) (I v) (I ns) (cz c) (I nb) (I least) = some (I v, I (if least ≤ v ∧ v ≤ at0 c nb (nb - 1) then f else flt f ns)) := by
  unfold pX6_lookAtChapter
  refine obind (f0_chapterTotal hb) (obind (f9_isWithin (by omega)) ?_)
  by_cases z : least ≤ v ∧ v ≤ at0 c nb (nb - 1)
  · rw [if_pos z, if_pos z]
    exact if_neg (by first | decide | (dsimp only; decide))
  · rw [if_neg z, if_neg z]
    exact (if_pos (by first | decide | rfl)).trans (obind (f8_failAtNumber (by omega)) rfl)
theorem f6_verse {c : Int → Int} {nb f v ns x r least : Int} (hr : -1 ≤ r ∧ r ≤ 200) (hf : -1 ≤ f ∧ f ≤ 1000) (hl : -1000 ≤ least ∧ least ≤ 1000) (e : pX0_find (cz c) (I nb) (I x) (I v) = some (I r)) : pX6_lookAtVerse (I f) (I v) (I ns) (cz c) (I nb) (I x) (I least) = some (I r, I (if least ≤ r then f else flt f ns)) := by
  unfold pX6_lookAtVerse
  refine obind e ?_
  by_cases z : least ≤ r
  · rw [if_pos z]
    exact if_pos ((I_le (by omega)).mpr z)
  · rw [if_neg z]
    exact (if_neg (fun t => z ((I_le (by omega)).mp t))).trans (obind (f8_failAtNumber (by omega)) rfl)
-- the class behind a fault
theorem f6_j35B {c l o T : Int → Int} {nb n f v p ns x least : Int} {u : Int32} (h : okB nb c l o) (hf : 0 ≤ f ∧ f ≤ 100) (hx : (-1000 ≤ x ∧ x ≤ 1000) ∧ -1000 ≤ v ∧ v ≤ 1000) (hl : -1000 ≤ least ∧ least ≤ 1000) : ∃ r, pX6_readLast_j35 (I least) (cz T) (I n) (cz c) (I nb) u (I p) (I f) (I v) (I ns) (I x) = some (I r, I p, I f, I v, I ns) := by
  obtain ⟨r, hr, e⟩ := f0_findG h (x := x) (v := v) (by omega)
  refine ⟨r, ?_⟩
  have e2 := f6_verse (ns := ns) hr (f := f) (by omega) hl e
  rw [flt_2 hf.1, ite_self] at e2
  exact obind e2 rfl
theorem f6_j66B {T c : Int → Int} {nb n f p : Int} {a0 a1 a4 a5 : Int32} (hn : 0 ≤ n ∧ n ≤ 80) (hp : 0 ≤ p ∧ p ≤ 1000) (hf : 0 ≤ f ∧ f ≤ 100) : pX6_read_j66 (cz T) (I n) (cz c) (I nb) a0 a1 (I p) (I f) a4 a5 = some (I f, a0, a1, I p, I f, a4, a5) := by
  have e : pX8_goesOn (I n) (I p) (I f) = some (I 0) := by rw [f8_goesOn (by omega), if_neg (by omega)]
  exact obind e (if_pos (by first | decide | rfl))
def r6d (vT0 : Nat → Int32) (vT1 : Int32) (vB0 : Nat → Int32) (vB3 : Int32) (ch first p f : Int32) : Option (Int32 × Int32 × Int32 × Int32 × Int32 × Int32 × Int32) := (pX6_readLast first first vT0 vT1 p f vB0 vB3 ch).bind fun q22 => pX6_read_j66 vT0 vT1 vB0 vB3 first q22.1 q22.2.1 q22.2.2.1 q22.2.2.2.1 q22.2.2.2.2
def r6c (vT0 : Nat → Int32) (vT1 : Int32) (vB0 : Nat → Int32) (vB3 : Int32) (ch first p f num ns : Int32) : Option (Int32 × Int32 × Int32 × Int32 × Int32 × Int32 × Int32) := (pX8_goesOn vT1 p f).bind fun q14 => if q14 = 0 then pX6_read_j66 vT0 vT1 vB0 vB3 first first p f num ns else ((pX8_skip vT0 vT1 p f (45 : Int32)).bind fun q20 => r6d vT0 vT1 vB0 vB3 ch first q20.1 q20.2)
def r6b (vT0 : Nat → Int32) (vT1 : Int32) (vB0 : Nat → Int32) (vB3 : Int32) (ch p f : Int32) : Option (Int32 × Int32 × Int32 × Int32 × Int32 × Int32 × Int32) := (pX8_skip vT0 vT1 p f (58 : Int32)).bind fun q8 => ((pX8_readNumber vT0 vT1 q8.1 q8.2).bind fun q10 => ((pX6_lookAtVerse q10.2.1 q10.2.2.1 q10.2.2.2 vB0 vB3 ch (0 : Int32)).bind fun q12 => r6c vT0 vT1 vB0 vB3 ch q12.1 q10.1 q12.2 q10.2.2.1 q10.2.2.2))
theorem r6_read {vT0 : Nat → Int32} {vT1 : Int32} {vB0 : Nat → Int32} {vB3 : Int32} : pX6_read vT0 vT1 vB0 vB3 = ((pX8_restart ).bind fun q2 => ((pX8_readNumber vT0 vT1 q2.1 q2.2.1).bind fun q4 => ((pX6_lookAtChapter q4.2.1 q4.2.2.1 q4.2.2.2 vB0 vB3 (1 : Int32)).bind fun q6 => r6b vT0 vT1 vB0 vB3 q6.1 q4.1 q6.2))) := rfl
-- the fault f stands: every later step keeps it
def ok6 (C : Option (Int32 × Int32 × Int32 × Int32 × Int32 × Int32 × Int32)) (f : Int) : Prop := ∃ a0 a1 x2 x3 x4 x5 : Int32, C = some (I f, a0, a1, x2, x3, x4, x5)
theorem r6dB {c l o S S2 : Int → Int} {nb n f p x first : Int} (h : okB nb c l o) (hT : tx S S2 n) (hf : 0 ≤ f ∧ f ≤ 80) (hp : 0 ≤ p ∧ p ≤ n) (hx : -1000 ≤ x ∧ x ≤ 1000) (hl : -1000 ≤ first ∧ first ≤ 1000) : ok6 (r6d (cz S) (I n) (cz c) (I nb) (I x) (I first) (I p) (I f)) f := by
  have hn := hT.1
  obtain ⟨p2, v, hp2, hv, e1⟩ := f8_readNumberB ⟨hn, hp, hf⟩ hT.s
  obtain ⟨r, e3⟩ := f6_j35B (T := S) (n := n) (f := f) (v := v) (p := p2) (ns := p) (x := x) (least := first) (u := I first) h (by omega) (by omega) hl
  have e2 : pX8_stands (cz S) (I n) (I p2) (I f) (58 : Int32) = some (I 0) := f8_standsB (c := 58) (by omega) hT.s
  have e4 : pX6_readLast (I first) (I first) (cz S) (I n) (I p) (I f) (cz c) (I nb) (I x) = some (I r, I p2, I f, I v, I p) := obind e1 (obind e2 ((if_pos (by first | decide | rfl)).trans e3))
  exact ⟨_, _, _, _, _, _, obind e4 (f6_j66B hn (by omega) (by omega))⟩
theorem r6cB {c l o S S2 : Int → Int} {nb n f p x first : Int} {a b : Int32} (h : okB nb c l o) (hT : tx S S2 n) (hf : 0 ≤ f ∧ f ≤ 80) (hp : 0 ≤ p ∧ p ≤ n) (hx : -1000 ≤ x ∧ x ≤ 1000) : ok6 (r6c (cz S) (I n) (cz c) (I nb) (I x) (I first) (I p) (I f) a b) f := by
  have hn := hT.1
  have e : pX8_goesOn (I n) (I p) (I f) = some (I 0) := by rw [f8_goesOn (by omega), if_neg (by omega)]
  exact ⟨_, _, _, _, _, _, obind e ((if_pos (by first | decide | rfl)).trans (f6_j66B hn (by omega) (by omega)))⟩
theorem r6bB {c l o S S2 : Int → Int} {nb n f p x : Int} (h : okB nb c l o) (hT : tx S S2 n) (hf : 0 ≤ f ∧ f ≤ 80) (hp : 0 ≤ p ∧ p ≤ n) (hx : -1000 ≤ x ∧ x ≤ 1000) : ok6 (r6b (cz S) (I n) (cz c) (I nb) (I x) (I p) (I f)) f := by
  have hn := hT.1
  obtain ⟨p2, v, hp2, hv, e1⟩ := f8_readNumberB ⟨hn, hp, hf⟩ hT.s
  have e0 : pX8_skip (cz S) (I n) (I p) (I f) (58 : Int32) = some (I p, I f) := f8_skipB (c := 58) (by omega) hT.s
  obtain ⟨r, hr, e⟩ := f0_findG h (x := x) (v := v) (by omega)
  have e2 := f6_verse (ns := p) hr (f := f) (by omega) (least := 0) (by omega) e
  rw [flt_2 hf.1, ite_self] at e2
  obtain ⟨a0, a1, x2, x3, x4, x5, e3⟩ := r6cB (a := I v) (b := I p) (first := r) h hT hf hp2 hx
  exact ⟨a0, a1, x2, x3, x4, x5, obind e0 (obind e1 (obind e2 e3))⟩
-- the reference behind a fault
-- out of 64.frefer2
-- a reference read, from the place where there is no fault yet
def two (C : Option (Int32 × Int32 × Int32 × Int32 × Int32 × Int32 × Int32)) (R : Option (Int32 × Int32 × Int32 × Int32 × Int32)) (nv : Int) : Prop := (∃ (fi la : Int) (x2 x3 x4 x5 q y7 : Int32), (0 ≤ fi ∧ fi ≤ la ∧ la < nv) ∧ C = some (I (-1), I fi, I la, x2, x3, x4, x5) ∧ R = some (q, I 1, y7, I fi, I la)) ∨ (∃ (F : Int) (a0 a1 x2 x3 x4 x5 y7 a13 a14 : Int32), (0 ≤ F ∧ F ≤ 80) ∧ C = some (I F, a0, a1, x2, x3, x4, x5) ∧ R = some (I F, I 0, y7, a13, a14))
theorem two.bad {C : Option (Int32 × Int32 × Int32 × Int32 × Int32 × Int32 × Int32)} {R : Option (Int32 × Int32 × Int32 × Int32 × Int32)} {nv F : Int} {y7 a13 a14 : Int32} (h : ok6 C F) (hF : 0 ≤ F ∧ F ≤ 80) (e : R = some (I F, I 0, y7, a13, a14)) : two C R nv := by
  obtain ⟨a0, a1, x2, x3, x4, x5, hC⟩ := h
  exact Or.inr ⟨F, a0, a1, x2, x3, x4, x5, y7, a13, a14, hF, hC, e⟩
theorem r6v_Y {c T : Int → Int} {nb n p v ns x r first : Int} {u : Int32} (hr : -1 ≤ r ∧ r ≤ 200) (hl : -1000 ≤ first ∧ first ≤ 1000) (e : pX0_find (cz c) (I nb) (I x) (I v) = some (I r)) (z : first ≤ r) : pX6_readLast_j35 (I first) (cz T) (I n) (cz c) (I nb) u (I p) (I (-1)) (I v) (I ns) (I x) = some (I r, I p, I (-1), I v, I ns) := by
  have e2 := f6_verse (ns := ns) hr (f := -1) (by omega) hl e
  rw [if_pos z] at e2
  exact obind e2 rfl
theorem r6v_N {c T : Int → Int} {nb n p v ns x r first : Int} {u : Int32} (hr : -1 ≤ r ∧ r ≤ 200) (hl : -1000 ≤ first ∧ first ≤ 1000) (e : pX0_find (cz c) (I nb) (I x) (I v) = some (I r)) (z : ¬ first ≤ r) : pX6_readLast_j35 (I first) (cz T) (I n) (cz c) (I nb) u (I p) (I (-1)) (I v) (I ns) (I x) = some (I r, I p, I ns, I v, I ns) := by
  have e2 := f6_verse (ns := ns) hr (f := -1) (by omega) hl e
  rw [if_neg z, flt_1] at e2
  exact obind e2 rfl
theorem isF_u {P : Int → Int} {p g i j : Int} (h1 : isF P p g i) (h2 : isF P p g j) : i = j := by
  have a1 := h1.1
  have a2 := h2.1
  by_cases z : i < j
  · exact absurd h1.2.1 (h2.2.2 i a1.1 z)
  · by_cases z2 : j < i
    · exact absurd h2.2.1 (h1.2.2 j a2.1 z2)
    · omega
