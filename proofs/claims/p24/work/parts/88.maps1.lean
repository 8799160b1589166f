-- a map read, item by item, as the law types it
theorem cz_ex (f : Nat → Int32) : ∃ F : Int → Int, f = cz F := by
  refine ⟨fun z => (f z.toNat).toInt, ?_⟩
  funext n
  show f n = Int32.ofInt ((f ((n : Int)).toNat).toInt)
  rw [Int32.ofInt_toInt]
  rfl
def itm2 (T : Int → Int) (s e a b : Int) : Prop := (∃ p, ((1 ≤ a ∧ a ≤ 60) ∧ 1 ≤ b ∧ b ≤ 60) ∧ dg T s p a ∧ T p = 43 ∧ dg T (p + 1) e b) ∨ ((a = 1 ∧ b = 0) ∧ dg T s (e - 1) 1 ∧ T (e - 1) = 60) ∨ ((a = 0 ∧ b = 1) ∧ dg T s (e - 1) 1 ∧ T (e - 1) = 62)
theorem itm2.bd {T : Int → Int} {s e a b : Int} (h : itm2 T s e a b) : (s < e ∧ e ≤ s + 5) ∧ 0 ≤ a ∧ 0 ≤ b ∧ 1 ≤ a + b := by
  rcases h with ⟨p, c, g1, k, g2⟩ | ⟨c, g1, k⟩ | ⟨c, g1, k⟩
  · have := g1.bd
    have := g2.bd
    omega
  · have := g1.bd
    omega
  · have := g1.bd
    omega
theorem itm2.lo {T T' : Int → Int} {s e a b : Int} (h : itm2 T s e a b) (y : tY2 T T' e) : itm2 T' s e a b := by
  rcases h with ⟨p, c, g1, k, g2⟩ | ⟨c, g1, k⟩ | ⟨c, g1, k⟩
  · have q := g2.bd
    exact Or.inl ⟨p, c, g1.lo (y.mo (by omega)), by rw [y p (by omega)]; exact k, g2.lo y⟩
  · exact Or.inr (Or.inl ⟨c, g1.lo (y.mo (by omega)), by rw [y (e - 1) (by omega)]; exact k⟩)
  · exact Or.inr (Or.inr ⟨c, g1.lo (y.mo (by omega)), by rw [y (e - 1) (by omega)]; exact k⟩)
theorem n43_60 : ¬ I 60 = (43 : Int32) := by decide
theorem n43_62 : ¬ I 62 = (43 : Int32) := by decide
theorem n60_62 : ¬ I 62 = (60 : Int32) := by decide
theorem n61_62 : ¬ I 62 = (61 : Int32) := by decide
theorem n43_61 : ¬ I 61 = (43 : Int32) := by decide
theorem n60_61 : ¬ I 61 = (60 : Int32) := by decide
section IM
variable {T : Int → Int} {n : Int}
theorem im_Y {A B : Int → Int} {s e a b ra rd gm : Int} (hT : tx T T n) (hs : 0 ≤ s) (he : e ≤ n) (it : itm2 T s e a b) (hend : e = n ∨ ¬ (48 ≤ T e ∧ T e ≤ 57)) (hr : (a ≤ ra ∧ ra ≤ 60) ∧ b ≤ rd ∧ rd ≤ 60) (hg : 0 ≤ gm ∧ gm < 120) : ∃ (A2 B2 : Int → Int) (nu ns : Int32), pX4_readItem (I ra) (I rd) (cz A) (cz B) (I gm) (cz T) (I n) (I s) (I (-1)) = some (I (ra - a), I (rd - b), cz A2, cz B2, I (gm + 1), I e, I (-1), nu, ns) ∧ (∀ i, 0 ≤ i → i < gm → A2 i = A i ∧ B2 i = B i) ∧ A2 gm = a ∧ B2 gm = b := by
  have hn := hT.1
  rcases it with ⟨p, c, g1, k, g2⟩ | ⟨⟨rfl, rfl⟩, g1, k⟩ | ⟨⟨rfl, rfl⟩, g1, k⟩
  · have q1 := g1.bd
    have q2 := g2.bd
    have e1 := f8_readNumber (S := T) (n := n) (p := s) ⟨hn, by omega⟩ hT.s (g1.nu (n := n) (by omega) hs (by omega) (Or.inr (by omega)))
    have e2 := f8_readSignY hT (p := p) (c := 43) (by omega) k (Or.inr (Or.inr (Or.inr rfl)))
    have e3 : pX4_use (I ra) (I rd) (I (-1)) (I s) (I a) (0 : Int32) = some (I (ra - a), I rd, I (-1)) := by
      have := f4_useY (a := ra) (d := rd) (f := -1) (ns := s) (x := a) (y := 0) (by omega)
      rw [Int.sub_zero] at this
      exact this
    have e4 := f8_readNumber (S := T) (n := n) (p := p + 1) ⟨hn, by omega⟩ hT.s (g2.nu (n := n) (by omega) (by omega) he hend)
    have e5 : pX4_use (I (ra - a)) (I rd) (I (-1)) (I (p + 1)) (0 : Int32) (I b) = some (I (ra - a), I (rd - b), I (-1)) := by
      have := f4_useY (a := ra - a) (d := rd) (f := -1) (ns := p + 1) (x := 0) (y := b) (by omega)
      rw [Int.sub_zero] at this
      exact this
    have e6 := f1_append (L := A) (R := B) (g := gm) (x := a) (y := b) hg
    exact ⟨up A gm a, up B gm b, _, _, obind e1 (obind e2 ((if_pos rfl).trans (obind e3 (obind e4 (obind e5 (obind e6 rfl)))))), fun i _ hi => ⟨up_ne (by omega), up_ne (by omega)⟩, up_at rfl, up_at rfl⟩
  · have q1 := g1.bd
    have e1 := f8_readNumber (S := T) (n := n) (p := s) ⟨hn, by omega⟩ hT.s (g1.nu (n := n) (by omega) hs (by omega) (Or.inr (by omega)))
    have e2 := f8_readSignY hT (p := e - 1) (c := 60) (by omega) k (Or.inr (Or.inl rfl))
    rw [show e - 1 + 1 = e by omega] at e2
    obtain ⟨G2, H2, u1, u2, e3⟩ := f4_addGroupsY (A := A) (B := B) (gm := gm) (v := 1) (l := 1) (r := 0) (a := ra) (d := rd) (ns := s) (by omega) (by omega) (by omega) (by omega) (by omega) (by omega)
    rw [show ra - 1 * 1 = ra - 1 by omega, show rd - 1 * 0 = rd - 0 by omega] at e3
    exact ⟨G2, H2, _, _, obind e1 (obind e2 ((if_neg n43_60).trans ((if_pos rfl).trans (obind e3 rfl)))), fun i h0 hi => ⟨by rw [u1 i h0 (by omega), exf_lo hi], by rw [u2 i h0 (by omega), exf_lo hi]⟩, by rw [u1 gm hg.1 (by omega), exf_hi (Int.le_refl _)], by rw [u2 gm hg.1 (by omega), exf_hi (Int.le_refl _)]⟩
  · have q1 := g1.bd
    have e1 := f8_readNumber (S := T) (n := n) (p := s) ⟨hn, by omega⟩ hT.s (g1.nu (n := n) (by omega) hs (by omega) (Or.inr (by omega)))
    have e2 := f8_readSignY hT (p := e - 1) (c := 62) (by omega) k (Or.inr (Or.inr (Or.inl rfl)))
    rw [show e - 1 + 1 = e by omega] at e2
    obtain ⟨G2, H2, u1, u2, e3⟩ := f4_addGroupsY (A := A) (B := B) (gm := gm) (v := 1) (l := 0) (r := 1) (a := ra) (d := rd) (ns := s) (by omega) (by omega) (by omega) (by omega) (by omega) (by omega)
    rw [show ra - 1 * 0 = ra - 0 by omega, show rd - 1 * 1 = rd - 1 by omega] at e3
    exact ⟨G2, H2, _, _, obind e1 (obind e2 ((if_neg n43_62).trans ((if_neg n60_62).trans ((if_neg n61_62).trans ((if_pos rfl).trans (obind e3 rfl)))))), fun i h0 hi => ⟨by rw [u1 i h0 (by omega), exf_lo hi], by rw [u2 i h0 (by omega), exf_lo hi]⟩, by rw [u1 gm hg.1 (by omega), exf_hi (Int.le_refl _)], by rw [u2 gm hg.1 (by omega), exf_hi (Int.le_refl _)]⟩
-- nothing typed
theorem im_0 {A B : Nat → Int32} {a d gm : Int32} (hT : tx T T n) : ∃ (nu ns : Int32), pX4_readItem a d A B gm (cz T) (I n) (I n) (I (-1)) = some (a, d, A, B, gm, I n, I n, nu, ns) := by
  have hn := hT.1
  have e1 := f8_readNumber (S := T) (n := n) (p := n) ⟨hn, by omega⟩ hT.s rd_nu0
  have e2 := f8_readSignN hT (p := n) (f := n) (by omega) (by omega) (fun t => by omega)
  rw [flt_2 (by omega)] at e2
  exact ⟨_, _, obind e1 (obind e2 ((if_neg (by first | decide | (dsimp only; decide))).trans ((if_neg (by first | decide | (dsimp only; decide))).trans ((if_neg (by first | decide | (dsimp only; decide))).trans (if_neg (by first | decide | (dsimp only; decide)))))))⟩
-- a number and a plus, then nothing
theorem im_P {A B : Int → Int} {s p a ra rd gm : Int} (hT : tx T T n) (hs : 0 ≤ s) (hp : p + 1 = n) (ha : 1 ≤ a ∧ a ≤ 60) (g1 : dg T s p a) (k : T p = 43) (hr : (a ≤ ra ∧ ra ≤ 60) ∧ 0 ≤ rd ∧ rd ≤ 60) (hg : 0 ≤ gm ∧ gm < 120) : ∃ (a2 d2 : Int) (A2 B2 : Nat → Int32) (g2 nu ns : Int32), pX4_readItem (I ra) (I rd) (cz A) (cz B) (I gm) (cz T) (I n) (I s) (I (-1)) = some (I a2, I d2, A2, B2, g2, I n, I n, nu, ns) := by
  have hn := hT.1
  have q1 := g1.bd
  have e1 := f8_readNumber (S := T) (n := n) (p := s) ⟨hn, by omega⟩ hT.s (g1.nu (n := n) (by omega) hs (by omega) (Or.inr (by omega)))
  have e2 := f8_readSignY hT (p := p) (c := 43) (by omega) k (Or.inr (Or.inr (Or.inr rfl)))
  rw [hp] at e2
  have e3 := f4_useY (a := ra) (d := rd) (f := -1) (ns := s) (x := a) (y := 0) (by omega)
  have e4 := f8_readNumber (S := T) (n := n) (p := n) ⟨hn, by omega⟩ hT.s rd_nu0
  have e5 := f4_useY (a := ra - a) (d := rd - 0) (f := n) (ns := n) (x := 0) (y := 0) (by omega)
  have e6 := f1_append (L := A) (R := B) (g := gm) (x := a) (y := 0) hg
  exact ⟨_, _, _, _, _, _, _, obind e1 (obind e2 ((if_pos rfl).trans (obind e3 (obind e4 (obind e5 (obind e6 rfl))))))⟩
-- one pair more than there is
theorem im_E {A B : Nat → Int32} {s gm : Int} (hT : tx T T n) (hs : 0 ≤ s ∧ s + 2 = n) (k1 : T s = 49) (k2 : T (s + 1) = 61) : ∃ (nu ns : Int32), pX4_readItem (I 0) (I 0) A B (I gm) (cz T) (I n) (I s) (I (-1)) = some (I 0, I 0, A, B, I gm, I n, I s, nu, ns) := by
  have hn := hT.1
  have g1 : dg T s (s + 1) 1 := Or.inl ⟨by omega, rfl, by rw [k1]; rfl⟩
  have e1 := f8_readNumber (S := T) (n := n) (p := s) ⟨hn, by omega⟩ hT.s (g1.nu (n := n) (by omega) hs.1 (by omega) (Or.inr (by omega)))
  have e2 := f8_readSignY hT (p := s + 1) (c := 61) (by omega) k2 (Or.inl rfl)
  rw [show s + 1 + 1 = n by omega] at e2
  have e3 := f4_addGroupsN (A := A) (B := B) (gm := gm) (v := 1) (l := 1) (r := 1) (a := 0) (d := 0) (ns := s) (by omega) (by omega) (by omega) (by omega) (by omega) (by omega) (by omega)
  exact ⟨_, _, obind e1 (obind e2 ((if_neg n43_61).trans ((if_neg n60_61).trans ((if_pos rfl).trans (obind e3 rfl)))))⟩
end IM
-- the items of a text, one behind the other
def stp (P : Int → Int) (i : Int) : Int := if i = 0 then 0 else P (i - 1) + 1
def sp (T P L R : Int → Int) (m n : Int) : Prop := ∀ i, 0 ≤ i → i < m → itm2 T (stp P i) (P i) (L i) (R i) ∧ 0 ≤ stp P i ∧ P i ≤ n ∧ (P i < n → T (P i) = 44)
def agr (A B L R : Int → Int) (m : Int) : Prop := ∀ i, 0 ≤ i → i < m → A i = L i ∧ B i = R i
theorem sp.more {T T' P L R : Int → Int} {m n n' : Int} (h : sp T P L R m n) (y : tY2 T T' n) (hn : n ≤ n') (c : n < n' → T' n = 44) : sp T' P L R m n' := by
  intro i h0 h1
  obtain ⟨a1, a2, a3, a4⟩ := h i h0 h1
  refine ⟨a1.lo (y.mo a3), a2, by omega, fun q => ?_⟩
  by_cases z : P i < n
  · rw [y (P i) z]
    exact a4 z
  · have e : P i = n := by omega
    rw [e]
    exact c (by omega)
theorem sp.add {T P L R : Int → Int} {m n : Int} (h : sp T P L R m n) (hm : 0 ≤ m) (it : itm2 T (stp P m) n (L m) (R m)) (hs : 0 ≤ stp P m) : sp T (up P m n) L R (m + 1) n := by
  intro i h0 h1
  by_cases z : i = m
  · subst z
    have e : stp (up P i n) i = stp P i := by
      unfold stp
      by_cases q : i = 0
      · rw [if_pos q, if_pos q]
      · rw [if_neg q, if_neg q, up_ne (by omega)]
    rw [e, up_at rfl]
    exact ⟨it, hs, Int.le_refl _, fun q => absurd q (by omega)⟩
  · have e : stp (up P m n) i = stp P i := by
      unfold stp
      by_cases q : i = 0
      · rw [if_pos q, if_pos q]
      · rw [if_neg q, if_neg q, up_ne (by omega)]
    rw [e, up_ne z]
    exact h i h0 (by omega)
abbrev rmR : Type := Int32 × Int32 × Int32 × (Nat → Int32) × (Nat → Int32) × Int32 × Int32 × Int32 × Int32 × Int32
def rmF (C : Option rmR) (F : Int) : Prop := ∃ (a d : Int32) (A B : Nat → Int32) (gm p f x4 x5 : Int32), C = some (I F, a, d, A, B, gm, p, f, x4, x5)
def rmY (C : Option rmR) (L R : Int → Int) (m : Int) : Prop := ∃ (A B : Int → Int) (a d p f x4 x5 : Int32), C = some (I (-1), a, d, cz A, cz B, I m, p, f, x4, x5) ∧ agr A B L R m
theorem f4_L40C {A B : Nat → Int32} {S : Int → Int} {n a d f p k : Int} {gm x4 x5 l3 r3 y : Int32} (hy : y = I k) (m : Nat) (hn : 0 ≤ n ∧ n ≤ 80) (hp : 0 ≤ p ∧ p ≤ n) (hf : 0 ≤ f ∧ f ≤ 80) : pX4_read_L40 (cz S) (I n) l3 r3 (m + 1) (I a) (I d) A B gm (I p) (I f) x4 x5 y = some (I f, I a, I d, A, B, gm, I p, I f, x4, x5) := by
  subst hy
  exact f4_L40B m hn hp hf
section RML
variable {T P L R : Int → Int} {n m n0 n1 : Int} {l3 r3 : Int32}
def rest (L R : Int → Int) (m n0 n1 : Int) : Prop := (n0 ≤ 60 ∧ n1 ≤ 60) ∧ ∀ j, 0 ≤ j → j < m → (0 ≤ Sm L j ∧ 0 ≤ Sm R j) ∧ L j ≤ n0 - Sm L j ∧ R j ≤ n1 - Sm R j
theorem rm_L (hT : tx T T n) (hm : m ≤ 12) (h : sp T P L R m n) (hr : rest L R m n0 n1) {Z : Option rmR → Prop} (fin : ∀ (fu : Nat) (A B : Int → Int) (x4 x5 : Int32), 3 ≤ fu → agr A B L R m → Z (pX4_read_L40 (cz T) (I n) l3 r3 fu (I (n0 - Sm L m)) (I (n1 - Sm R m)) (cz A) (cz B) (I m) (I (P (m - 1))) (I (-1)) x4 x5 (I (m - 1)))) : ∀ (dd : Nat) (j : Int) (fu : Nat) (A B : Int → Int) (x4 x5 : Int32), j + dd = m → 1 ≤ j → dd + 3 ≤ fu → agr A B L R j → Z (pX4_read_L40 (cz T) (I n) l3 r3 fu (I (n0 - Sm L j)) (I (n1 - Sm R j)) (cz A) (cz B) (I j) (I (P (j - 1))) (I (-1)) x4 x5 (I (j - 1))) := by
  have hn := hT.1
  intro dd
  induction dd with
  | zero =>
    intro j fu A B x4 x5 h0 h1 h2 h3
    obtain rfl : j = m := by omega
    exact fin fu A B x4 x5 (by omega) h3
  | succ dd ih =>
    intro j fu A B x4 x5 h0 h1 h2 h3
    obtain ⟨fu, rfl⟩ : ∃ f, fu = f + 1 := ⟨fu - 1, by omega⟩
    obtain ⟨i1, i2, i3, i4⟩ := h j (by omega) (by omega)
    obtain ⟨p1, p2, p3, p4⟩ := h (j - 1) (by omega) (by omega)
    have b1 := i1.bd
    have b2 := p1.bd
    have st : stp P j = P (j - 1) + 1 := if_neg (by omega)
    have r := hr.2 j (by omega) (by omega)
    have r0 := hr.1
    have c0 : T (P (j - 1)) = 44 := p4 (by omega)
    have e1 : pX8_goesOn (I n) (I (P (j - 1))) (I (-1)) = some (I 1) := by rw [f8_goesOn (by omega), if_pos ⟨rfl, by omega⟩]
    have e2 := f8_skipY (S := T) (n := n) (p := P (j - 1)) (c := 44) ⟨hn, by omega, by omega⟩ hT.s c0
    rw [st] at i1
    obtain ⟨A2, B2, nu, ns, e3, u1, u2, u3⟩ := im_Y (A := A) (B := B) (ra := n0 - Sm L j) (rd := n1 - Sm R j) (gm := j) hT (by omega) i3 i1 (by by_cases q : P j < n; (right; rw [i4 q]; omega); (left; omega)) (by omega) (by omega)
    have ag : agr A2 B2 L R (j + 1) := by
      intro i q0 q1
      by_cases z : i = j
      · subst z
        exact ⟨u2, u3⟩
      · have a1 := u1 i q0 (by omega)
        have a2 := h3 i q0 (by omega)
        exact ⟨a1.1.trans a2.1, a1.2.trans a2.2⟩
    have f := ih (j + 1) fu A2 B2 nu ns (by omega) (by omega) (by omega) ag
    rw [Sm_s (F := L) (by omega), Sm_s (F := R) (by omega), show j + 1 - 1 = j by omega] at f
    have e : pX4_read_L40 (cz T) (I n) l3 r3 (fu + 1) (I (n0 - Sm L j)) (I (n1 - Sm R j)) (cz A) (cz B) (I j) (I (P (j - 1))) (I (-1)) x4 x5 (I (j - 1)) = pX4_read_L40 (cz T) (I n) l3 r3 fu (I (n0 - (Sm L j + L j))) (I (n1 - (Sm R j + R j))) (cz A2) (cz B2) (I (j + 1)) (I (P j)) (I (-1)) nu ns (I j) := by
      show pX4_read_bL40 (cz T) (I n) l3 r3 (pX4_read_L40 (cz T) (I n) l3 r3 fu) _ _ _ _ _ _ _ _ _ _ = _
      have e4 : I (j - 1) + (1 : Int32) = I j := by rw [I_l1, I_add, show j - 1 + 1 = j by omega]
      rw [show n0 - (Sm L j + L j) = n0 - Sm L j - L j by omega, show n1 - (Sm R j + R j) = n1 - Sm R j - R j by omega]
      exact (if_neg (by rw [show (80 : Int32) = I 80 from rfl, I_le (by omega)]; omega)).trans (obind e1 ((if_neg (by decide)).trans (obind e2 (obind e3 (by dsimp only; rw [e4])))))
    rw [e]
    exact f
theorem rm_read (hT : tx T T n) (hm : 1 ≤ m ∧ m ≤ 12) (h : sp T P L R m n) (hr : rest L R m n0 n1) {f0 f1 : Nat → Int32} {Z : Option rmR → Prop} (fin : ∀ (fu : Nat) (A B : Int → Int) (x4 x5 : Int32), 3 ≤ fu → agr A B L R m → Z (pX4_read_L40 (cz T) (I n) (I n0) (I n1) fu (I (n0 - Sm L m)) (I (n1 - Sm R m)) (cz A) (cz B) (I m) (I (P (m - 1))) (I (-1)) x4 x5 (I (m - 1)))) : Z (pX4_read f0 f1 (cz T) (I n) (I n0) (I n1)) := by
  obtain ⟨F0, rfl⟩ := cz_ex f0
  obtain ⟨F1, rfl⟩ := cz_ex f1
  obtain ⟨i1, i2, i3, i4⟩ := h 0 (by omega) (by omega)
  have r := hr.2 0 (by omega) (by omega)
  have r0 := hr.1
  rw [Sm_0, Sm_0] at r
  obtain ⟨A2, B2, nu, ns, e3, u1, u2, u3⟩ := im_Y (A := F0) (B := F1) (ra := n0) (rd := n1) (gm := 0) hT (by omega) i3 i1 (by by_cases q : P 0 < n; (right; rw [i4 q]; omega); (left; omega)) (by omega) (by omega)
  have ag : agr A2 B2 L R 1 := by
    intro i q0 q1
    obtain rfl : i = 0 := by omega
    exact ⟨u2, u3⟩
  have f := rm_L hT hm.2 h hr fin (m - 1).toNat 1 4000 A2 B2 nu ns (by omega) (by omega) (by omega) ag
  have s1 : Sm L 1 = L 0 := by
    have := Sm_s (F := L) (k := 0) (by omega)
    rw [Sm_0] at this
    rw [show (1 : Int) = 0 + 1 by omega, this]
    omega
  have s2 : Sm R 1 = R 0 := by
    have := Sm_s (F := R) (k := 0) (by omega)
    rw [Sm_0] at this
    rw [show (1 : Int) = 0 + 1 by omega, this]
    omega
  rw [s1, s2] at f
  have e0 : pX8_restart = some (I 0, I (-1), I 0, I 0) := rfl
  have e1 : pX1_clear = some (I 0) := rfl
  have e : pX4_read (cz F0) (cz F1) (cz T) (I n) (I n0) (I n1) = pX4_read_L40 (cz T) (I n) (I n0) (I n1) 4000 (I (n0 - L 0)) (I (n1 - R 0)) (cz A2) (cz B2) (I 1) (I (P (1 - 1))) (I (-1)) nu ns (I (1 - 1)) := obind e0 (obind e1 (obind e3 rfl))
  rw [e]
  exact f
-- the text ends behind the items
theorem rm_end (hT : tx T T n) (hm : 1 ≤ m ∧ m ≤ 12) (h : sp T P L R m n) (he : P (m - 1) = n) (hr : rest L R m n0 n1) (hx : Sm L m ≤ n0 ∧ Sm R m ≤ n1 ∧ 0 ≤ Sm L m ∧ 0 ≤ Sm R m) {f0 f1 : Nat → Int32} : (Sm L m = n0 ∧ Sm R m = n1 → rmY (pX4_read f0 f1 (cz T) (I n) (I n0) (I n1)) L R m) ∧ (¬ (Sm L m = n0 ∧ Sm R m = n1) → rmF (pX4_read f0 f1 (cz T) (I n) (I n0) (I n1)) n) := by
  have hn := hT.1
  have r0 := hr.1
  have e1 : pX8_goesOn (I n) (I n) (I (-1)) = some (I 0) := by rw [f8_goesOn (by omega), if_neg (by omega)]
  refine ⟨fun z => rm_read hT hm h hr (Z := fun C => rmY C L R m) (fun fu A B x4 x5 h3 ag => ?_), fun z => rm_read hT hm h hr (Z := fun C => rmF C n) (fun fu A B x4 x5 h3 ag => ?_)⟩
  · obtain ⟨fu, rfl⟩ : ∃ f, fu = f + 1 := ⟨fu - 1, by omega⟩
    rw [he, z.1, z.2, show n0 - n0 = 0 by omega, show n1 - n1 = 0 by omega]
    exact ⟨A, B, _, _, _, _, _, _, (if_neg (by rw [show (80 : Int32) = I 80 from rfl, I_le (by omega)]; omega)).trans (obind e1 ((if_pos rfl).trans f4_j70Y)), ag⟩
  · obtain ⟨fu, rfl⟩ : ∃ f, fu = f + 1 := ⟨fu - 1, by omega⟩
    rw [he]
    exact ⟨_, _, _, _, _, _, _, _, _, (if_neg (by rw [show (80 : Int32) = I 80 from rfl, I_le (by omega)]; omega)).trans (obind e1 ((if_pos rfl).trans (f4_j70N (by omega) (by omega))))⟩
-- a comma, a number, a plus, and the text ends
theorem rm_plus (hT : tx T T n) (hm : 1 ≤ m ∧ m ≤ 11) (h : sp T P L R m n) {p a : Int} (hc : T (P (m - 1)) = 44) (ha : 1 ≤ a ∧ a ≤ 60) (g1 : dg T (P (m - 1) + 1) p a) (k : T p = 43) (hp : p + 1 = n) (hr : rest L R m n0 n1) (hx : a ≤ n0 - Sm L m ∧ 0 ≤ Sm L m ∧ 0 ≤ n1 - Sm R m ∧ 0 ≤ Sm R m) {f0 f1 : Nat → Int32} : rmF (pX4_read f0 f1 (cz T) (I n) (I n0) (I n1)) n := by
  have hn := hT.1
  have r0 := hr.1
  have q1 := g1.bd
  obtain ⟨p1, p2, p3, p4⟩ := h (m - 1) (by omega) (by omega)
  have b2 := p1.bd
  refine rm_read hT (by omega) h hr (Z := fun C => rmF C n) (fun fu A B x4 x5 h3 ag => ?_)
  obtain ⟨fu, rfl⟩ : ∃ f, fu = f + 1 + 1 := ⟨fu - 2, by omega⟩
  have e1 : pX8_goesOn (I n) (I (P (m - 1))) (I (-1)) = some (I 1) := by rw [f8_goesOn (by omega), if_pos ⟨rfl, by omega⟩]
  have e2 := f8_skipY (S := T) (n := n) (p := P (m - 1)) (c := 44) ⟨hn, by omega, by omega⟩ hT.s hc
  obtain ⟨a2, d2, A2, B2, g2, nu, ns, e3⟩ := im_P (A := A) (B := B) (ra := n0 - Sm L m) (rd := n1 - Sm R m) (gm := m) hT (by omega) hp ha g1 k (by omega) (by omega)
  have e4 : I (m - 1) + (1 : Int32) = I m := by rw [I_l1, I_add, show m - 1 + 1 = m by omega]
  exact ⟨_, _, _, _, _, _, _, _, _, (if_neg (by rw [show (80 : Int32) = I 80 from rfl, I_le (by omega)]; omega)).trans (obind e1 ((if_neg (by decide)).trans (obind e2 (obind e3 (f4_L40C e4 fu hn (by omega) (by omega))))))⟩
-- a comma, and a pair more than there is
theorem rm_more (hT : tx T T n) (hm : 1 ≤ m ∧ m ≤ 12) (h : sp T P L R m n) (hc : T (P (m - 1)) = 44) (k1 : T (P (m - 1) + 1) = 49) (k2 : T (P (m - 1) + 1 + 1) = 61) (hp : P (m - 1) + 3 = n) (hr : rest L R m n0 n1) (hx : Sm L m = n0 ∧ Sm R m = n1) {f0 f1 : Nat → Int32} : rmF (pX4_read f0 f1 (cz T) (I n) (I n0) (I n1)) (P (m - 1) + 1) := by
  have hn := hT.1
  have r0 := hr.1
  obtain ⟨p1, p2, p3, p4⟩ := h (m - 1) (by omega) (by omega)
  have b2 := p1.bd
  refine rm_read hT (by omega) h hr (Z := fun C => rmF C (P (m - 1) + 1)) (fun fu A B x4 x5 h3 ag => ?_)
  obtain ⟨fu, rfl⟩ : ∃ f, fu = f + 1 + 1 := ⟨fu - 2, by omega⟩
  rw [hx.1, hx.2, show n0 - n0 = 0 by omega, show n1 - n1 = 0 by omega]
  have e1 : pX8_goesOn (I n) (I (P (m - 1))) (I (-1)) = some (I 1) := by rw [f8_goesOn (by omega), if_pos ⟨rfl, by omega⟩]
  have e2 := f8_skipY (S := T) (n := n) (p := P (m - 1)) (c := 44) ⟨hn, by omega, by omega⟩ hT.s hc
  obtain ⟨nu, ns, e3⟩ := im_E (A := cz A) (B := cz B) (gm := m) (s := P (m - 1) + 1) hT (by omega) k1 k2
  have e4 : I (m - 1) + (1 : Int32) = I m := by rw [I_l1, I_add, show m - 1 + 1 = m by omega]
  exact ⟨_, _, _, _, _, _, _, _, _, (if_neg (by rw [show (80 : Int32) = I 80 from rfl, I_le (by omega)]; omega)).trans (obind e1 ((if_neg (by decide)).trans (obind e2 (obind e3 (f4_L40C e4 fu hn (by omega) (by omega))))))⟩
-- nothing typed; a number and a plus alone
theorem rm_0 (hT : tx T T 0) {f0 f1 : Nat → Int32} : rmF (pX4_read f0 f1 (cz T) (I 0) (I n0) (I n1)) 0 := by
  obtain ⟨nu, ns, e3⟩ := im_0 (A := f0) (B := f1) (a := I n0) (d := I n1) (gm := I 0) hT
  have e0 : pX8_restart = some (I 0, I (-1), I 0, I 0) := rfl
  have e1 : pX1_clear = some (I 0) := rfl
  exact ⟨_, _, _, _, _, _, _, _, _, obind e0 (obind e1 (obind e3 (f4_L40B (k := 0) 3999 (by omega) (by omega) (by omega))))⟩
theorem rm_plus0 (hT : tx T T n) {p a : Int} (ha : 1 ≤ a ∧ a ≤ 60) (g1 : dg T 0 p a) (k : T p = 43) (hp : p + 1 = n) (hx : (a ≤ n0 ∧ n0 ≤ 60) ∧ 0 ≤ n1 ∧ n1 ≤ 60) {f0 f1 : Nat → Int32} : rmF (pX4_read f0 f1 (cz T) (I n) (I n0) (I n1)) n := by
  have hn := hT.1
  obtain ⟨F0, rfl⟩ := cz_ex f0
  obtain ⟨F1, rfl⟩ := cz_ex f1
  have e0 : pX8_restart = some (I 0, I (-1), I 0, I 0) := rfl
  have e1 : pX1_clear = some (I 0) := rfl
  obtain ⟨a2, d2, A2, B2, g2, nu, ns, e3⟩ := im_P (A := F0) (B := F1) (ra := n0) (rd := n1) (gm := 0) (s := 0) hT (by omega) hp ha g1 k (by omega) (by omega)
  exact ⟨_, _, _, _, _, _, _, _, _, obind e0 (obind e1 (obind e3 (f4_L40B (k := 0) 3999 hn (by omega) (by omega))))⟩
end RML
