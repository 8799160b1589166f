-- out of 40.fhist
-- a state of the class and a row of the reference
def rS (v : vST) (W : Int → Int) : Prop := ∃ (c0 l0 o0 : Int → Int) (n0 : Int) (c1 l1 o1 : Int → Int) (n1 : Int) (L R : Int → Int) (g : Int), v = ((cz c0, cz l0, cz o0, I n0), (cz c1, cz l1, cz o1, I n1), (cz L, cz R, I g)) ∧ okB n0 c0 l0 o0 ∧ okB n1 c1 l1 o1 ∧ okM g L R n0 n1 ∧ rB W 0 n0 c0 l0 o0 ∧ rB W 1 n1 c1 l1 o1 ∧ rM W g L R
theorem rB.congr {W V : Int → Int} {b n : Int} {c l o : Int → Int} (hb : 0 ≤ b ∧ b ≤ 1) (hn : n ≤ 60) (h : ∀ i, 0 ≤ i → i < 605 → V i = W i) (r : rB W b n c l o) : rB V b n c l o := by
  obtain ⟨r1, r2, r3⟩ := r
  refine ⟨by rw [h _ (by omega) (by omega)]; exact r1, by rw [h _ (by omega) (by omega)]; exact r2, fun i a b => ?_⟩
  obtain ⟨q1, q2, q3⟩ := r3 i a b
  exact ⟨by rw [h _ (by omega) (by omega)]; exact q1, by rw [h _ (by omega) (by omega)]; exact q2, by rw [h _ (by omega) (by omega)]; exact q3⟩
theorem rM.congr {W V : Int → Int} {g : Int} {L R : Int → Int} (hg : g ≤ 120) (h : ∀ i, 0 ≤ i → i < 605 → V i = W i) (r : rM W g L R) : rM V g L R := by
  obtain ⟨r1, r2⟩ := r
  refine ⟨by rw [h _ (by omega) (by omega)]; exact r1, fun i a b => ?_⟩
  obtain ⟨q1, q2⟩ := r2 i a b
  exact ⟨by rw [h _ (by omega) (by omega)]; exact q1, by rw [h _ (by omega) (by omega)]; exact q2⟩
theorem rS.congr {v : vST} {W V : Int → Int} (h : ∀ i, 0 ≤ i → i < 605 → V i = W i) (r : rS v W) : rS v V := by
  obtain ⟨c0, l0, o0, n0, c1, l1, o1, n1, L, R, g, e, k0, k1, kM, r0, r1, rm⟩ := r
  exact ⟨c0, l0, o0, n0, c1, l1, o1, n1, L, R, g, e, k0, k1, kM, r0.congr (by omega) k0.1.2 h, r1.congr (by omega) k1.1.2 h, rm.congr kM.1.2 h⟩
-- the history: k states, of which the first stands first in the reference's row of rows
def rH (k : Int) (s0 s1 s2 s3 s4 : vST) (V : Int → Int) : Prop := (0 ≤ k ∧ k ≤ 5) ∧ (0 < k → rS s0 V) ∧ (1 < k → rS s1 (fun i => V (605 + i))) ∧ (2 < k → rS s2 (fun i => V (1210 + i))) ∧ (3 < k → rS s3 (fun i => V (1815 + i))) ∧ (4 < k → rS s4 (fun i => V (2420 + i)))
def rHr (r : Nat) (k : Int) (s0 s1 s2 s3 s4 : vST) (V : Int → Int) : Prop := (r = 0 ∧ rH k s0 s1 s2 s3 s4 V) ∨ (r = 1 ∧ rH k s1 s2 s3 s4 s0 V)
-- the reference records: the copy, then the shift
-- both record alike
-- the reference's undo
-- out of 41.fmapx
-- maps changed: groups a to c joined; group a parted; a group's size changed
def mrg (F : Int → Int) (a c : Int) : Int → Int := fun i => if i < a then F i else if i = a then Sm F (c + 1) - Sm F a else F (i + (c - a))
def ctf (F : Int → Int) (a x : Int) : Int → Int := fun i => if i < a then F i else if i = a then x else if i = a + 1 then F a - x else F (i - 1)
def dlt (F : Int → Int) (a d : Int) : Int → Int := fun i => if i = a then F i + d else F i
theorem Sm_dlt {F : Int → Int} {a d g : Int} (h : 0 ≤ a ∧ a < g) : Sm (dlt F a d) g = Sm F g + d := by
  have e1 : Sm (dlt F a d) a = Sm F a := Sm_congr h.1 (fun i x y => if_neg (by omega))
  have e2 : Sm (dlt F a d) (a + 1) = Sm (dlt F a d) a + dlt F a d a := Sm_s h.1
  have e3 : Sm F (a + 1) = Sm F a + F a := Sm_s h.1
  have e4 : dlt F a d a = F a + d := if_pos rfl
  have e5 := Sm_shift (F := F) (G := dlt F a d) (a := a + 1) (d := 0) (n := g) (by omega) (by omega) (by omega) (fun i x y => by show (if i = a then F i + d else F i) = F (i + 0); rw [if_neg (by omega), Int.add_zero])
  rw [Int.add_zero, Int.add_zero] at e5
  omega
theorem Sm_mrg {F : Int → Int} {a c g : Int} (h : 0 ≤ a ∧ a ≤ c ∧ c < g) : Sm (mrg F a c) (g - (c - a)) = Sm F g := by
  have e1 : Sm (mrg F a c) a = Sm F a := Sm_congr h.1 (fun i x y => if_pos (by omega))
  have e2 : Sm (mrg F a c) (a + 1) = Sm (mrg F a c) a + mrg F a c a := Sm_s h.1
  have e4 : mrg F a c a = Sm F (c + 1) - Sm F a := by
    unfold mrg
    rw [if_neg (by omega), if_pos rfl]
  have e5 := Sm_shift (F := F) (G := mrg F a c) (a := a + 1) (d := c - a) (n := g - (c - a)) (by omega) (by omega) (by omega) (fun i x y => by unfold mrg; rw [if_neg (by omega), if_neg (by omega)])
  rw [show g - (c - a) + (c - a) = g by omega, show a + 1 + (c - a) = c + 1 by omega] at e5
  omega
theorem Sm_ctf {F : Int → Int} {a x g : Int} (h : 0 ≤ a ∧ a < g) : Sm (ctf F a x) (g + 1) = Sm F g := by
  have e1 : Sm (ctf F a x) a = Sm F a := Sm_congr h.1 (fun i u v => if_pos (by omega))
  have e2 : Sm (ctf F a x) (a + 1) = Sm (ctf F a x) a + ctf F a x a := Sm_s h.1
  have e3 : Sm (ctf F a x) (a + 1 + 1) = Sm (ctf F a x) (a + 1) + ctf F a x (a + 1) := Sm_s (by omega)
  have e4 : ctf F a x a = x := by
    unfold ctf
    rw [if_neg (by omega), if_pos rfl]
  have e6 : ctf F a x (a + 1) = F a - x := by
    unfold ctf
    rw [if_neg (by omega), if_neg (by omega), if_pos rfl]
  have e7 : Sm F (a + 1) = Sm F a + F a := Sm_s h.1
  have e5 := Sm_shift (F := F) (G := ctf F a x) (a := a + 1 + 1) (d := -1) (n := g + 1) (by omega) (by omega) (by omega) (fun i u v => by unfold ctf; rw [if_neg (by omega), if_neg (by omega), if_neg (by omega), show i - 1 = i + -1 by omega])
  rw [show g + 1 + -1 = g by omega, show a + 1 + 1 + -1 = a + 1 by omega] at e5
  omega
-- each value is at most the sum
theorem le_Sm {F : Int → Int} {g i : Int} (hF : ∀ i, 0 ≤ i → i < g → 0 ≤ F i) (hi : 0 ≤ i ∧ i < g) : F i ≤ Sm F g := by
  have e1 := Sm_nn (F := F) hi.1 (fun j a b => hF j a (by omega))
  have e2 : Sm F (i + 1) = Sm F i + F i := Sm_s hi.1
  have e3 := Sm_mono (F := F) (m := i + 1) (n := g) (by omega) (by omega) (fun j a b => hF j (by omega) b)
  omega
theorem okM_mk {g m n : Int} {L R : Int → Int} (hg : 0 ≤ g) (h : ∀ i, 0 ≤ i → i < g → 0 ≤ L i ∧ 0 ≤ R i ∧ 1 ≤ L i + R i) (hm : Sm L g = m) (hn : Sm R g = n) (hmn : m ≤ 60 ∧ n ≤ 60) : okM g L R m n := by
  have e1 := Sm_lo (F := fun i => L i + R i) (c := 1) hg (fun i a b => (h i a b).2.2)
  have e2 := Sm_add (F := L) (G := R) hg
  refine ⟨by omega, fun i a b => ?_, hm, hn⟩
  have e3 := le_Sm (F := L) (fun i a b => (h i a b).1) ⟨a, b⟩
  have e4 := le_Sm (F := R) (fun i a b => (h i a b).2.1) ⟨a, b⟩
  have e5 := h i a b
  omega
theorem okM_g {g m n : Int} {L R : Int → Int} (h : okM g L R m n) : g ≤ m + n := by
  have e1 := Sm_lo (F := fun i => L i + R i) (c := 1) h.1.1 (fun i a b => (h.2.1 i a b).2.2)
  have e2 := Sm_add (F := L) (G := R) h.1.1
  have e3 := h.2.2
  omega
theorem okM_g2 {g m n a : Int} {L R : Int → Int} (h : okM g L R m n) (ha : 0 ≤ a ∧ a < g) (h2 : 2 ≤ L a + R a) : g + 1 ≤ m + n := by
  have e1 := Sm_lo (F := dlt (fun i => L i + R i) a (-1)) (c := 1) h.1.1 (fun i x y => by
    have := (h.2.1 i x y).2.2
    unfold dlt
    by_cases q : i = a
    · rw [if_pos q, q]
      show 1 ≤ L a + R a + -1
      omega
    · rw [if_neg q]; exact this)
  have e2 := Sm_add (F := L) (G := R) h.1.1
  have e3 := h.2.2
  have e4 := Sm_dlt (F := fun i => L i + R i) (a := a) (d := -1) (g := g) ha
  omega
-- the group of a verse
theorem ex_grp {F : Int → Int} {g v n : Int} (hF : ∀ i, 0 ≤ i → i < g → 0 ≤ F i) (hg : 0 ≤ g) (hn : Sm F g = n) (hv : 0 ≤ v ∧ v < n) : ∃ j, (0 ≤ j ∧ j < g) ∧ Sm F j ≤ v ∧ v < Sm F (j + 1) := by
  have key : ∀ k, 0 ≤ k → v < Sm F k → ∃ j, (0 ≤ j ∧ j < k) ∧ Sm F j ≤ v ∧ v < Sm F (j + 1) := by
    intro k hk
    refine zind (P := fun k => v < Sm F k → ∃ j, (0 ≤ j ∧ j < k) ∧ Sm F j ≤ v ∧ v < Sm F (j + 1)) (fun h => by rw [Sm_0] at h; omega) (fun k hk ih h => ?_) k hk
    by_cases q : v < Sm F k
    · obtain ⟨j, a, b⟩ := ih q
      exact ⟨j, by omega, b⟩
    · exact ⟨k, by omega, by omega, h⟩
  exact key g hg (by omega)
-- a place in the order of groups
theorem grp_mono {F : Int → Int} {g v w i j : Int} (hF : ∀ i, 0 ≤ i → i < g → 0 ≤ F i) (hi : 0 ≤ i ∧ i < g) (hj : 0 ≤ j ∧ j < g) (h1 : Sm F i ≤ v) (h2 : w < Sm F (j + 1)) (hvw : v ≤ w) : i ≤ j := by
  by_cases q : i ≤ j
  · exact q
  · have := Sm_mono (F := F) (m := j + 1) (n := i) (by omega) (by omega) (fun k a b => hF k (by omega) (by omega))
    omega
-- the class's maps are these
theorem mrg_class {L : Int → Int} {g a c i : Int} (h : (0 ≤ g ∧ g ≤ 120) ∧ 0 ≤ a ∧ a < c ∧ c < g) (hi : 0 ≤ i ∧ i < g - (c - a)) : cls (up L a (Sm L c - Sm L a + L c)) 120 (a + 1) (c - a) g i = mrg L a c i := by
  have e : Sm L (c + 1) = Sm L c + L c := Sm_s (by omega)
  unfold cls cpy mrg
  rw [if_pos (by omega)]
  by_cases q : i < a
  · rw [if_neg (by omega), if_pos q, up_ne (by omega)]
  · by_cases q2 : i = a
    · rw [if_neg (by omega), if_neg q, if_pos q2, q2, up_at rfl]
      omega
    · rw [if_pos (by omega), if_neg q, if_neg q2, up_ne (by omega), show a + 1 + (c - a) + (i - (a + 1)) = i + (c - a) by omega]
theorem ctf_class {L : Int → Int} {g a x i : Int} (h : (0 ≤ g ∧ g < 120) ∧ 0 ≤ a ∧ a < g) (hi : 0 ≤ i ∧ i < g + 1) : up (up (opn L 120 a g) a x) (a + 1) (L a - x) i = ctf L a x i := by
  unfold ctf
  by_cases q : i = a + 1
  · rw [up_at q, if_neg (by omega), if_neg (by omega), if_pos q]
  · rw [up_ne q]
    by_cases q2 : i = a
    · rw [up_at q2, if_neg (by omega), if_pos q2]
    · rw [up_ne q2]
      unfold opn cpy
      rw [if_pos (by omega)]
      by_cases q3 : i < a
      · rw [if_neg (by omega), if_pos q3]
      · rw [if_pos (by omega), if_neg q3, if_neg q2, if_neg q, show a + (i - (a + 1)) = i - 1 by omega]
-- the reference joins groups
-- out of 42.fact1
-- acts on the map: both sides alike
theorem rB.lo {W V : Int → Int} {b n : Int} {c l o : Int → Int} (hb : 0 ≤ b ∧ b ≤ 1) (hn : n ≤ 60) (h : ∀ i, i < 364 → V i = W i) (r : rB W b n c l o) : rB V b n c l o := by
  obtain ⟨r1, r2, r3⟩ := r
  refine ⟨by rw [h _ (by omega)]; exact r1, by rw [h _ (by omega)]; exact r2, fun i a b => ?_⟩
  obtain ⟨q1, q2, q3⟩ := r3 i a b
  exact ⟨by rw [h _ (by omega)]; exact q1, by rw [h _ (by omega)]; exact q2, by rw [h _ (by omega)]; exact q3⟩
theorem rM.val {W : Int → Int} {g : Int} {L R L2 R2 : Int → Int} (h : ∀ i, 0 ≤ i → i < g → L2 i = L i ∧ R2 i = R i) (r : rM W g L R) : rM W g L2 R2 :=
  ⟨r.1, fun i a b => by rw [(h i a b).1, (h i a b).2]; exact r.2 i a b⟩
theorem okM.val {g m n : Int} {L R L2 R2 : Int → Int} (h : ∀ i, 0 ≤ i → i < g → L2 i = L i ∧ R2 i = R i) (r : okM g L R m n) : okM g L2 R2 m n := by
  refine ⟨r.1, fun i a b => by rw [(h i a b).1, (h i a b).2]; exact r.2.1 i a b, ?_, ?_⟩
  · rw [Sm_congr r.1.1 (fun i a b => (h i a b).1)]; exact r.2.2.1
  · rw [Sm_congr r.1.1 (fun i a b => (h i a b).2)]; exact r.2.2.2
theorem f1_mergeM {L R : Int → Int} {g a c : Int} (h : (0 ≤ g ∧ g ≤ 120) ∧ 0 ≤ a ∧ a ≤ c ∧ c < g) : ∃ L2 R2 : Int → Int, (∀ i, 0 ≤ i → i < g - (c - a) → L2 i = mrg L a c i ∧ R2 i = mrg R a c i) ∧ pX1_merge (cz L) (cz R) (I g) (I a) (I c) = some (cz L2, cz R2, I (g - (c - a))) := by
  by_cases q : a = c
  · subst q
    refine ⟨L, R, fun i x y => ?_, by rw [f1_merge0 (by omega), show g - (a - a) = g by omega]⟩
    have e1 : Sm L (a + 1) = Sm L a + L a := Sm_s (by omega)
    have e2 : Sm R (a + 1) = Sm R a + R a := Sm_s (by omega)
    unfold mrg
    by_cases z : i < a
    · rw [if_pos z, if_pos z]; exact ⟨rfl, rfl⟩
    · by_cases z2 : i = a
      · rw [if_neg z, if_pos z2, if_neg z, if_pos z2, z2]
        omega
      · rw [if_neg z, if_neg z2, if_neg z, if_neg z2, show i + (a - a) = i by omega]
        exact ⟨rfl, rfl⟩
  · exact ⟨_, _, fun i x y => ⟨mrg_class (by omega) ⟨x, y⟩, mrg_class (by omega) ⟨x, y⟩⟩, f1_merge (by omega)⟩
theorem okM_mrg {g m n a c : Int} {L R : Int → Int} (h : okM g L R m n) (hmn : m ≤ 60 ∧ n ≤ 60) (hac : 0 ≤ a ∧ a ≤ c ∧ c < g) : okM (g - (c - a)) (mrg L a c) (mrg R a c) m n := by
  have hL : ∀ i, 0 ≤ i → i < g → 0 ≤ L i := fun i x y => (h.2.1 i x y).1.1
  have hR : ∀ i, 0 ≤ i → i < g → 0 ≤ R i := fun i x y => (h.2.1 i x y).2.1.1
  refine okM_mk (by omega) (fun i x y => ?_) ((Sm_mrg hac).trans h.2.2.1) ((Sm_mrg hac).trans h.2.2.2) hmn
  unfold mrg
  by_cases z : i < a
  · rw [if_pos z, if_pos z]
    have := h.2.1 i x (by omega)
    omega
  · by_cases z2 : i = a
    · rw [if_neg z, if_pos z2, if_neg z, if_pos z2]
      have e1 : Sm L (a + 1) = Sm L a + L a := Sm_s (by omega)
      have e2 : Sm R (a + 1) = Sm R a + R a := Sm_s (by omega)
      have e3 := Sm_mono (F := L) (m := a + 1) (n := c + 1) (by omega) (by omega) (fun j u v => hL j (by omega) (by omega))
      have e4 := Sm_mono (F := R) (m := a + 1) (n := c + 1) (by omega) (by omega) (fun j u v => hR j (by omega) (by omega))
      have := h.2.1 a (by omega) (by omega)
      omega
    · rw [if_neg z, if_neg z2, if_neg z, if_neg z2]
      have := h.2.1 (i + (c - a)) (by omega) (by omega)
      omega
section ACT
variable {k : Int} {s0 s1 s2 s3 s4 : vST} {V W : Int → Int} {vL0 vL1 vL2 : Nat → Int32} {vL3 : Int32} {vR0 vR1 vR2 : Nat → Int32} {vR3 : Int32} {vM0 vM1 : Nat → Int32} {vM2 : Int32}
end ACT

-- out of 43.fact2
-- part
theorem okM_ctf {g m n a x y : Int} {L R : Int → Int} (h : okM g L R m n) (hmn : m ≤ 60 ∧ n ≤ 60) (ha : 0 ≤ a ∧ a < g) (hx : 0 ≤ x ∧ x ≤ L a) (hy : 0 ≤ y ∧ y ≤ R a) (h1 : ¬ x + y = 0) (h2 : ¬ L a - x + (R a - y) = 0) : okM (g + 1) (ctf L a x) (ctf R a y) m n := by
  refine okM_mk (by omega) (fun i u v => ?_) ((Sm_ctf ha).trans h.2.2.1) ((Sm_ctf ha).trans h.2.2.2) hmn
  unfold ctf
  by_cases z : i < a
  · rw [if_pos z, if_pos z]
    have := h.2.1 i u (by omega)
    omega
  · by_cases z2 : i = a
    · rw [if_neg z, if_pos z2, if_neg z, if_pos z2]
      omega
    · by_cases z3 : i = a + 1
      · rw [if_neg z, if_neg z2, if_pos z3, if_neg z, if_neg z2, if_pos z3]
        omega
      · rw [if_neg z, if_neg z2, if_neg z3, if_neg z, if_neg z2, if_neg z3]
        have := h.2.1 (i - 1) (by omega) (by omega)
        omega
-- pairs
def p01 (n : Int) : Int → Int := fun j => if j < n then 1 else 0
theorem Sm_p01 {n e : Int} (h : 0 ≤ n ∧ n ≤ e) : Sm (p01 n) e = n := by
  have e1 : Sm (p01 n) n = n := by
    have : ∀ k, 0 ≤ k → k ≤ n → Sm (p01 n) k = k := by
      intro k hk
      refine zind (P := fun k => k ≤ n → Sm (p01 n) k = k) (fun _ => rfl) (fun k hk ih hn => ?_) k hk
      rw [Sm_s hk, ih (by omega)]
      show k + (if k < n then 1 else 0) = k + 1
      rw [if_pos (by omega)]
    exact this n h.1 (Int.le_refl _)
  refine zindR (P := fun e => Sm (p01 n) e = n) n e1 (fun k hk ih => ?_) e h.2
  rw [Sm_s (by omega), ih]
  show n + (if k < n then 1 else 0) = n
  rw [if_neg (by omega)]
  omega
theorem okM_p01 {n0 n1 : Int} (h0 : 0 ≤ n0 ∧ n0 ≤ 60) (h1 : 0 ≤ n1 ∧ n1 ≤ 60) : okM (mx n0 n1) (p01 n0) (p01 n1) n0 n1 := by
  have hm : n0 ≤ mx n0 n1 ∧ n1 ≤ mx n0 n1 ∧ (mx n0 n1 = n0 ∨ mx n0 n1 = n1) := by
    unfold mx
    split <;> omega
  refine okM_mk (by omega) (fun i a b => ?_) (Sm_p01 (by omega)) (Sm_p01 (by omega)) (by omega)
  unfold p01
  by_cases z : i < n0
  · rw [if_pos z]
    by_cases z1 : i < n1
    · rw [if_pos z1]; omega
    · rw [if_neg z1]; omega
  · rw [if_neg z, if_pos (by omega)]
    omega
-- the row of the reference with groups laid so far
def rP (X W : Int → Int) (k : Int) (P Q : Int → Int) : Prop := X 364 = k ∧ (∀ j, 0 ≤ j → j < k → X (365 + j) = P j ∧ X (485 + j) = Q j) ∧ ∀ i, i < 364 → X i = W i
theorem rP.add {X W P Q : Int → Int} {k : Int} (hk : 0 ≤ k ∧ k < 120) (r : rP X W k P Q) : rP (up (up (up X (365 + k) (P k)) (485 + k) (Q k)) 364 (k + 1)) W (k + 1) P Q := by
  obtain ⟨r1, r2, r3⟩ := r
  refine ⟨up_at rfl, fun j a b => ?_, fun i a => ?_⟩
  · by_cases z : j = k
    · rw [z, up_ne (by omega), up_ne (by omega), up_at rfl, up_ne (by omega), up_at rfl]
      exact ⟨rfl, rfl⟩
    · rw [up_ne (by omega), up_ne (by omega), up_ne (by omega), up_ne (by omega), up_ne (by omega), up_ne (by omega)]
      exact r2 j a (by omega)
  · rw [up_ne (by omega), up_ne (by omega), up_ne (by omega)]
    exact r3 i a
theorem rP.m {X W P Q : Int → Int} {k : Int} (r : rP X W k P Q) : rM X k P Q := ⟨r.1, r.2.1⟩
theorem f9_pair47 {n0 n1 : Int} (h0 : 0 ≤ n0 ∧ n0 ≤ 60) (h1 : 0 ≤ n1 ∧ n1 ≤ 60) {a0 a1 a2 b0 b1 b2 : Nat → Int32} {hk : Int32} {r : Nat} {t0 t1 t2 t3 t4 : vST} : ∀ (m : Nat) (A B : Int → Int) (k : Int), 0 ≤ k → k ≤ mx n0 n1 → mx n0 n1 - k < m → (∀ j, 0 ≤ j → j < k → A j = p01 n0 j ∧ B j = p01 n1 j) → ∃ A2 B2 : Int → Int, (∀ j, 0 ≤ j → j < mx n0 n1 → A2 j = p01 n0 j ∧ B2 j = p01 n1 j) ∧ pX9_pairAll_L47 a0 a1 a2 (I n0) b0 b1 b2 (I n1) m (cz A) (cz B) (I k) hk r t0 t1 t2 t3 t4 (I (mx n0 n1)) (I k) = some (I (mx n0 n1), cz A2, cz B2, I (mx n0 n1), hk, r, t0, t1, t2, t3, t4) := by
  have hm : n0 ≤ mx n0 n1 ∧ n1 ≤ mx n0 n1 ∧ (mx n0 n1 = n0 ∨ mx n0 n1 = n1) := by
    unfold mx
    split <;> omega
  intro m
  induction m with
  | zero => intro A B k a b c; omega
  | succ m ih =>
    intro A B k a b c hj
    by_cases q : k = mx n0 n1
    · refine ⟨A, B, by rw [← q]; exact hj, ?_⟩
      show pX9_pairAll_bL47 _ _ _ _ _ _ _ _ _ _ _ _ _ _ _ _ _ _ _ _ _ = _
      unfold pX9_pairAll_bL47
      rw [← q]
      simp (disch := omega) only [if_true, if_false, I_add, I_sub, I_mul, I_neg, I_ofNat, Option.bind_some, kIn, I_l0, I_l1, I_l2, I_l3, I_l4, I_l5, I_l6, I_l7, I_l8, I_l9, I_l10, I_l11, I_l12, I_l13, I_l40, I_l43, I_l44, I_l45, I_l48, I_l57, I_l58, I_l60, I_l61, I_l62, I_l79, I_l80, I_l100, I_l101, I_l120, I_l200, I_l201, I_l1999, I_l2000, I_l2001, I_le, if_pos]
    · obtain ⟨A2, B2, u1, u2⟩ := ih (up A k (p01 n0 k)) (up B k (p01 n1 k)) (k + 1) (by omega) (by omega) (by omega) (fun j x y => by
        by_cases z : j = k
        · rw [z, up_at rfl, up_at rfl]; exact ⟨rfl, rfl⟩
        · rw [up_ne z, up_ne z]; exact hj j x (by omega))
      refine ⟨A2, B2, u1, ?_⟩
      show pX9_pairAll_bL47 _ _ _ _ _ _ _ _ _ _ _ _ _ _ _ _ _ _ _ _ _ = _
      unfold pX9_pairAll_bL47 pX9_pairAll_j78 pX9_pairAll_j97
      simp only [if_true, if_false, I_add, I_sub, I_mul, I_neg, I_ofNat, Option.bind_some, kIn, I_l0, I_l1, I_l2, I_l3, I_l4, I_l5, I_l6, I_l7, I_l8, I_l9, I_l10, I_l11, I_l12, I_l13, I_l40, I_l43, I_l44, I_l45, I_l48, I_l57, I_l58, I_l60, I_l61, I_l62, I_l79, I_l80, I_l100, I_l101, I_l120, I_l200, I_l201, I_l1999, I_l2000, I_l2001]
      rw [f1_append (by omega), f1_append (by omega), f1_append (by omega), f1_append (by omega)]
      unfold p01 at u2
      by_cases q0 : k < n0
      · rw [if_pos q0] at u2
        by_cases q1 : k < n1
        · rw [if_pos q1] at u2
          simp (disch := omega) only [if_true, if_false, I_add, I_sub, I_mul, I_neg, I_ofNat, Option.bind_some, kIn, I_l0, I_l1, I_l2, I_l3, I_l4, I_l5, I_l6, I_l7, I_l8, I_l9, I_l10, I_l11, I_l12, I_l13, I_l40, I_l43, I_l44, I_l45, I_l48, I_l57, I_l58, I_l60, I_l61, I_l62, I_l79, I_l80, I_l100, I_l101, I_l120, I_l200, I_l201, I_l1999, I_l2000, I_l2001, I_le, if_pos, if_neg]
          exact u2
        · rw [if_neg q1] at u2
          simp (disch := omega) only [if_true, if_false, I_add, I_sub, I_mul, I_neg, I_ofNat, Option.bind_some, kIn, I_l0, I_l1, I_l2, I_l3, I_l4, I_l5, I_l6, I_l7, I_l8, I_l9, I_l10, I_l11, I_l12, I_l13, I_l40, I_l43, I_l44, I_l45, I_l48, I_l57, I_l58, I_l60, I_l61, I_l62, I_l79, I_l80, I_l100, I_l101, I_l120, I_l200, I_l201, I_l1999, I_l2000, I_l2001, I_le, if_pos, if_neg]
          exact u2
      · rw [if_neg q0, if_pos (by omega)] at u2
        simp (disch := omega) only [if_true, if_false, I_add, I_sub, I_mul, I_neg, I_ofNat, Option.bind_some, kIn, I_l0, I_l1, I_l2, I_l3, I_l4, I_l5, I_l6, I_l7, I_l8, I_l9, I_l10, I_l11, I_l12, I_l13, I_l40, I_l43, I_l44, I_l45, I_l48, I_l57, I_l58, I_l60, I_l61, I_l62, I_l79, I_l80, I_l100, I_l101, I_l120, I_l200, I_l201, I_l1999, I_l2000, I_l2001, I_le, if_pos, if_neg]
        exact u2
section ACT2
variable {k : Int} {s0 s1 s2 s3 s4 : vST} {V W : Int → Int} {vL0 vL1 vL2 : Nat → Int32} {vL3 : Int32} {vR0 vR1 vR2 : Nat → Int32} {vR3 : Int32} {vM0 vM1 : Nat → Int32} {vM2 : Int32}
theorem mx_bd (a b : Int) : a ≤ mx a b ∧ b ≤ mx a b ∧ (mx a b = a ∨ mx a b = b) := by
  unfold mx
  split <;> omega
def mn (a b : Int) : Int := if b ≤ a then b else a
theorem mn_bd (a b : Int) : mn a b ≤ a ∧ mn a b ≤ b ∧ (mn a b = a ∨ mn a b = b) := by
  unfold mn
  split <;> omega
theorem f9_pairAll {n0 n1 k2 : Int} {r : Nat} {t0 t1 t2 t3 t4 : vST} {L R : Int → Int} {h0 : Int32} {g : Int32} {c0 l0 o0 c1 l1 o1 : Nat → Int32} (b0 : 0 ≤ n0 ∧ n0 ≤ 60) (b1 : 0 ≤ n1 ∧ n1 ≤ 60) (e1 : pX2_record h0 s0 s1 s2 s3 s4 c0 l0 o0 (I n0) c1 l1 o1 (I n1) (cz L) (cz R) g = some (I k2, r, t0, t1, t2, t3, t4)) : ∃ A2 B2 : Int → Int, (∀ j, 0 ≤ j → j < mx n0 n1 → A2 j = p01 n0 j ∧ B2 j = p01 n1 j) ∧ pX9_pairAll c0 l0 o0 (I n0) c1 l1 o1 (I n1) (cz L) (cz R) g h0 s0 s1 s2 s3 s4 = some (I (mx n0 n1), cz A2, cz B2, I (mx n0 n1), I k2, r, t0, t1, t2, t3, t4) := by
  have hm := mx_bd n0 n1
  obtain ⟨A2, B2, u1, u2⟩ := f9_pair47 (n0 := n0) (n1 := n1) b0 b1 (a0 := c0) (a1 := l0) (a2 := o0) (b0 := c1) (b1 := l1) (b2 := o1) (hk := I k2) (r := r) (t0 := t0) (t1 := t1) (t2 := t2) (t3 := t3) (t4 := t4) 4000 L R 0 (by omega) (by omega) (by omega) (fun j x y => by omega)
  refine ⟨A2, B2, u1, ?_⟩
  unfold pX9_pairAll
  rw [e1]
  simp only [if_true, if_false, I_add, I_sub, I_mul, I_neg, I_ofNat, Option.bind_some, kIn, I_l0, I_l1, I_l2, I_l3, I_l4, I_l5, I_l6, I_l7, I_l8, I_l9, I_l10, I_l11, I_l12, I_l13, I_l40, I_l43, I_l44, I_l45, I_l48, I_l57, I_l58, I_l60, I_l61, I_l62, I_l79, I_l80, I_l100, I_l101, I_l120, I_l200, I_l201, I_l1999, I_l2000, I_l2001]
  have ec : pX1_clear = some (I 0) := rfl
  rw [ec, I_mx (by omega)]
  simp only [if_true, if_false, I_add, I_sub, I_mul, I_neg, I_ofNat, Option.bind_some, kIn, I_l0, I_l1, I_l2, I_l3, I_l4, I_l5, I_l6, I_l7, I_l8, I_l9, I_l10, I_l11, I_l12, I_l13, I_l40, I_l43, I_l44, I_l45, I_l48, I_l57, I_l58, I_l60, I_l61, I_l62, I_l79, I_l80, I_l100, I_l101, I_l120, I_l200, I_l201, I_l1999, I_l2000, I_l2001]
  rw [u2]
end ACT2

-- out of 44.fact3
-- undo, exchange
-- rows exchanged up to a place
def rX (X W : Int → Int) (k : Int) : Prop := (∀ i, 0 ≤ i → i < k → X i = W (60 + i) ∧ X (60 + i) = W i ∧ X (120 + i) = W (180 + i) ∧ X (180 + i) = W (120 + i) ∧ X (240 + i) = W (300 + i) ∧ X (300 + i) = W (240 + i)) ∧ (∀ i, k ≤ i → i < 60 → X i = W i ∧ X (60 + i) = W (60 + i) ∧ X (120 + i) = W (120 + i) ∧ X (180 + i) = W (180 + i) ∧ X (240 + i) = W (240 + i) ∧ X (300 + i) = W (300 + i)) ∧ ∀ i, 360 ≤ i → X i = W i
-- groups exchanged up to a place
def rG (X Y : Int → Int) (g k : Int) (L R : Int → Int) : Prop := X 364 = g ∧ (∀ i, 0 ≤ i → i < k → X (365 + i) = R i ∧ X (485 + i) = L i) ∧ (∀ i, k ≤ i → i < g → X (365 + i) = L i ∧ X (485 + i) = R i) ∧ ∀ i, i < 364 → X i = Y i
def ex4 (Z : Int → Int) : Int → Int := up (up (up (up Z 360 (Z 361)) 361 (Z 360)) 362 (Z 363)) 363 (Z 362)
theorem ex4_hi {Z : Int → Int} {i : Int} (h : 364 ≤ i) : ex4 Z i = Z i := by
  unfold ex4
  rw [up_ne (by omega), up_ne (by omega), up_ne (by omega), up_ne (by omega)]
theorem ex4_lo {Z : Int → Int} {i : Int} (h : i < 360) : ex4 Z i = Z i := by
  unfold ex4
  rw [up_ne (by omega), up_ne (by omega), up_ne (by omega), up_ne (by omega)]
theorem ex4_s {Z : Int → Int} : ex4 Z 360 = Z 361 ∧ ex4 Z 361 = Z 360 ∧ ex4 Z 362 = Z 363 ∧ ex4 Z 363 = Z 362 := by
  unfold ex4
  refine ⟨?_, ?_, ?_, ?_⟩
  · rw [up_ne (by omega), up_ne (by omega), up_ne (by omega), up_at (by omega)]
  · rw [up_ne (by omega), up_ne (by omega), up_at (by omega)]
  · rw [up_ne (by omega), up_at (by omega)]
  · rw [up_at (by omega)]
theorem obind {α β : Type} {x : Option α} {a : α} {f : α → Option β} {K : Option β} (h : x = some a) (h2 : f a = K) : x.bind f = K := by
  subst h
  exact h2
def ex6 (X W : Int → Int) (k : Int) : Int → Int := up (up (up (up (up (up X k (W (60 + k))) (60 + k) (W k)) (120 + k) (W (180 + k))) (180 + k) (W (120 + k))) (240 + k) (W (300 + k))) (300 + k) (W (240 + k))
theorem ex6_ne {X W : Int → Int} {k i : Int} (h : ¬ i = k ∧ ¬ i = 60 + k ∧ ¬ i = 120 + k ∧ ¬ i = 180 + k ∧ ¬ i = 240 + k ∧ ¬ i = 300 + k) : ex6 X W k i = X i := by
  unfold ex6
  rw [up_ne h.2.2.2.2.2, up_ne h.2.2.2.2.1, up_ne h.2.2.2.1, up_ne h.2.2.1, up_ne h.2.1, up_ne h.1]
theorem ex6_at {X W : Int → Int} {k : Int} (h : 0 ≤ k ∧ k < 60) : ex6 X W k k = W (60 + k) ∧ ex6 X W k (60 + k) = W k ∧ ex6 X W k (120 + k) = W (180 + k) ∧ ex6 X W k (180 + k) = W (120 + k) ∧ ex6 X W k (240 + k) = W (300 + k) ∧ ex6 X W k (300 + k) = W (240 + k) := by
  unfold ex6
  refine ⟨?_, ?_, ?_, ?_, ?_, ?_⟩
  · rw [up_ne (by omega), up_ne (by omega), up_ne (by omega), up_ne (by omega), up_ne (by omega), up_at rfl]
  · rw [up_ne (by omega), up_ne (by omega), up_ne (by omega), up_ne (by omega), up_at rfl]
  · rw [up_ne (by omega), up_ne (by omega), up_ne (by omega), up_at rfl]
  · rw [up_ne (by omega), up_ne (by omega), up_at rfl]
  · rw [up_ne (by omega), up_at rfl]
  · rw [up_at rfl]
theorem rX.add {X W : Int → Int} {k : Int} (hk : 0 ≤ k ∧ k < 60) (r : rX X W k) : rX (ex6 X W k) W (k + 1) := by
  obtain ⟨p1, p2, p3⟩ := r
  refine ⟨fun i x y => ?_, fun i x y => ?_, fun i x => by rw [ex6_ne (by omega)]; exact p3 i x⟩
  · by_cases z : i = k
    · rw [z]; exact ex6_at hk
    · have h5 := p1 i x (by omega)
      rw [ex6_ne (by omega), ex6_ne (by omega), ex6_ne (by omega), ex6_ne (by omega), ex6_ne (by omega), ex6_ne (by omega)]
      exact h5
  · have h5 := p2 i (by omega) y
    rw [ex6_ne (by omega), ex6_ne (by omega), ex6_ne (by omega), ex6_ne (by omega), ex6_ne (by omega), ex6_ne (by omega)]
    exact h5
theorem rB_exch {W Z X2 : Int → Int} {n : Int} {c l o : Int → Int} {b : Int} (hb : 0 ≤ b ∧ b ≤ 1) (hn : n ≤ 60) (hZ : rX Z W 60) (hX : ∀ i, i < 364 → X2 i = ex4 Z i) (r : rB W (1 - b) n c l o) : rB X2 b n c l o := by
  obtain ⟨r1, r2, r3⟩ := r
  obtain ⟨z1, z2, z3⟩ := hZ
  have hs : ∀ i, i < 360 → X2 i = Z i := fun i a => by rw [hX i (by omega), ex4_lo a]
  obtain ⟨e0, e1, e2, e3⟩ := ex4_s (Z := Z)
  have hb2 : b = 0 ∨ b = 1 := by omega
  rcases hb2 with rfl | rfl
  · have r3 : ∀ i, 0 ≤ i → i < n → W (60 + i) = l i ∧ W (180 + i) = o i ∧ W (300 + i) = c i := fun i x y => r3 i x y
    have r1 : W 361 = n := r1
    have r2 : W 363 = at0 c n (n - 1) := r2
    refine ⟨?_, ?_, fun i x y => ?_⟩
    · rw [show (360 : Int) + 0 = 360 from rfl, hX _ (by omega), e0, z3 _ (by omega)]; exact r1
    · rw [show (362 : Int) + 0 = 362 from rfl, hX _ (by omega), e2, z3 _ (by omega)]; exact r2
    · have a1 := z1 i x (by omega)
      have a2 := r3 i x y
      rw [hs _ (by omega), hs _ (by omega), hs _ (by omega), show 60 * 0 + i = i by omega, show 120 + 60 * 0 + i = 120 + i by omega, show 240 + 60 * 0 + i = 240 + i by omega, a1.1, a1.2.2.1, a1.2.2.2.2.1]
      exact a2
  · have r3 : ∀ i, 0 ≤ i → i < n → W (60 * 0 + i) = l i ∧ W (120 + 60 * 0 + i) = o i ∧ W (240 + 60 * 0 + i) = c i := fun i x y => r3 i x y
    have r1 : W 360 = n := r1
    have r2 : W 362 = at0 c n (n - 1) := r2
    refine ⟨?_, ?_, fun i x y => ?_⟩
    · rw [show (360 : Int) + 1 = 361 from rfl, hX _ (by omega), e1, z3 _ (by omega)]; exact r1
    · rw [show (362 : Int) + 1 = 363 from rfl, hX _ (by omega), e3, z3 _ (by omega)]; exact r2
    · have a1 := z1 i x (by omega)
      have a2 := r3 i x y
      rw [show 60 * 0 + i = i by omega, show 120 + 60 * 0 + i = 120 + i by omega, show 240 + 60 * 0 + i = 240 + i by omega] at a2
      rw [hs _ (by omega), hs _ (by omega), hs _ (by omega), show 60 * 1 + i = 60 + i by omega, show 120 + 60 * 1 + i = 180 + i by omega, show 240 + 60 * 1 + i = 300 + i by omega, a1.2.1, a1.2.2.2.1, a1.2.2.2.2.2]
      exact a2
section ACT3
variable {k : Int} {s0 s1 s2 s3 s4 : vST} {V W : Int → Int} {vL0 vL1 vL2 : Nat → Int32} {vL3 : Int32} {vR0 vR1 vR2 : Nat → Int32} {vR3 : Int32} {vM0 vM1 : Nat → Int32} {vM2 : Int32}
end ACT3
section ACT3
variable {k : Int} {s0 s1 s2 s3 s4 : vST} {V W : Int → Int} {vL0 vL1 vL2 : Nat → Int32} {vL3 : Int32} {vR0 vR1 vR2 : Nat → Int32} {vR3 : Int32} {vM0 vM1 : Nat → Int32} {vM2 : Int32}
end ACT3

-- out of 45.fact4
-- what of the row a book and the map are read from
theorem rB.keep {W X : Int → Int} {b n : Int} {c l o : Int → Int} (hn : n ≤ 60) (h1 : X (360 + b) = W (360 + b)) (h2 : X (362 + b) = W (362 + b)) (h3 : ∀ i, 0 ≤ i → i < 60 → X (60 * b + i) = W (60 * b + i) ∧ X (120 + 60 * b + i) = W (120 + 60 * b + i) ∧ X (240 + 60 * b + i) = W (240 + 60 * b + i)) (r : rB W b n c l o) : rB X b n c l o := by
  refine ⟨h1.trans r.1, h2.trans r.2.1, fun i x y => ?_⟩
  obtain ⟨a1, a2, a3⟩ := h3 i x (by omega)
  rw [a1, a2, a3]
  exact r.2.2 i x y
theorem rM.keep {W X : Int → Int} {g : Int} {L R : Int → Int} (hg : g ≤ 120) (h : ∀ i, 364 ≤ i → i < 605 → X i = W i) (r : rM W g L R) : rM X g L R := by
  refine ⟨by rw [h _ (by omega) (by omega)]; exact r.1, fun i x y => ?_⟩
  rw [h _ (by omega) (by omega), h _ (by omega) (by omega)]
  exact r.2 i x y
theorem f9_isVerse {n0 n1 b v : Int} (h : (0 ≤ n0 ∧ n0 ≤ 60) ∧ (0 ≤ n1 ∧ n1 ≤ 60) ∧ (-2147483648 ≤ b ∧ b ≤ 2147483647) ∧ -2147483648 ≤ v ∧ v ≤ 2147483647) : pX9_isVerse (I n0) (I n1) (I b) (I v) = some (I (if (b = 0 ∧ 0 ≤ v ∧ v < n0) ∨ (b = 1 ∧ 0 ≤ v ∧ v < n1) then 1 else 0)) := by
  unfold pX9_isVerse
  rw [f9_isBook (by omega)]
  by_cases q : b = 0
  · rw [if_pos (Or.inl q), f0_has (by omega)]
    simp (disch := omega) only [if_true, if_false, I_add, I_sub, I_mul, I_neg, I_ofNat, Option.bind_some, kIn, I_l0, I_l1, I_l2, I_l3, I_l4, I_l5, I_l6, I_l7, I_l8, I_l9, I_l10, I_l11, I_l12, I_l13, I_l40, I_l43, I_l44, I_l45, I_l48, I_l57, I_l58, I_l60, I_l61, I_l62, I_l79, I_l80, I_l100, I_l101, I_l120, I_l200, I_l201, I_l1999, I_l2000, I_l2001, I_eq, if_pos, if_neg]
    by_cases z : 0 ≤ v ∧ v < n0
    · rw [if_pos z, if_pos (Or.inl ⟨q, z⟩)]
      simp (disch := omega) only [if_true, if_false, I_add, I_sub, I_mul, I_neg, I_ofNat, Option.bind_some, kIn, I_l0, I_l1, I_l2, I_l3, I_l4, I_l5, I_l6, I_l7, I_l8, I_l9, I_l10, I_l11, I_l12, I_l13, I_l40, I_l43, I_l44, I_l45, I_l48, I_l57, I_l58, I_l60, I_l61, I_l62, I_l79, I_l80, I_l100, I_l101, I_l120, I_l200, I_l201, I_l1999, I_l2000, I_l2001, I_eq, if_neg]
    · have e : ¬ ((b = 0 ∧ 0 ≤ v ∧ v < n0) ∨ (b = 1 ∧ 0 ≤ v ∧ v < n1)) := by omega
      rw [if_neg z, if_neg e]
      simp (disch := omega) only [if_true, if_false, I_add, I_sub, I_mul, I_neg, I_ofNat, Option.bind_some, kIn, I_l0, I_l1, I_l2, I_l3, I_l4, I_l5, I_l6, I_l7, I_l8, I_l9, I_l10, I_l11, I_l12, I_l13, I_l40, I_l43, I_l44, I_l45, I_l48, I_l57, I_l58, I_l60, I_l61, I_l62, I_l79, I_l80, I_l100, I_l101, I_l120, I_l200, I_l201, I_l1999, I_l2000, I_l2001, I_eq, if_pos]
  · by_cases q1 : b = 1
    · rw [if_pos (Or.inr q1), f0_has (by omega), f0_has (by omega)]
      simp (disch := omega) only [if_true, if_false, I_add, I_sub, I_mul, I_neg, I_ofNat, Option.bind_some, kIn, I_l0, I_l1, I_l2, I_l3, I_l4, I_l5, I_l6, I_l7, I_l8, I_l9, I_l10, I_l11, I_l12, I_l13, I_l40, I_l43, I_l44, I_l45, I_l48, I_l57, I_l58, I_l60, I_l61, I_l62, I_l79, I_l80, I_l100, I_l101, I_l120, I_l200, I_l201, I_l1999, I_l2000, I_l2001, I_eq, if_pos, if_neg]
      by_cases z : 0 ≤ v ∧ v < n1
      · rw [if_pos z, if_pos (Or.inr ⟨q1, z⟩)]
        simp (disch := omega) only [if_true, if_false, I_add, I_sub, I_mul, I_neg, I_ofNat, Option.bind_some, kIn, I_l0, I_l1, I_l2, I_l3, I_l4, I_l5, I_l6, I_l7, I_l8, I_l9, I_l10, I_l11, I_l12, I_l13, I_l40, I_l43, I_l44, I_l45, I_l48, I_l57, I_l58, I_l60, I_l61, I_l62, I_l79, I_l80, I_l100, I_l101, I_l120, I_l200, I_l201, I_l1999, I_l2000, I_l2001, I_eq, if_neg]
      · have e : ¬ ((b = 0 ∧ 0 ≤ v ∧ v < n0) ∨ (b = 1 ∧ 0 ≤ v ∧ v < n1)) := by omega
        rw [if_neg z, if_neg e]
        simp (disch := omega) only [if_true, if_false, I_add, I_sub, I_mul, I_neg, I_ofNat, Option.bind_some, kIn, I_l0, I_l1, I_l2, I_l3, I_l4, I_l5, I_l6, I_l7, I_l8, I_l9, I_l10, I_l11, I_l12, I_l13, I_l40, I_l43, I_l44, I_l45, I_l48, I_l57, I_l58, I_l60, I_l61, I_l62, I_l79, I_l80, I_l100, I_l101, I_l120, I_l200, I_l201, I_l1999, I_l2000, I_l2001, I_eq, if_pos]
    · have e0 : ¬ (b = 0 ∨ b = 1) := by omega
      have e : ¬ ((b = 0 ∧ 0 ≤ v ∧ v < n0) ∨ (b = 1 ∧ 0 ≤ v ∧ v < n1)) := by omega
      rw [if_neg e0, if_neg e]
      simp (disch := omega) only [if_true, if_false, I_add, I_sub, I_mul, I_neg, I_ofNat, Option.bind_some, kIn, I_l0, I_l1, I_l2, I_l3, I_l4, I_l5, I_l6, I_l7, I_l8, I_l9, I_l10, I_l11, I_l12, I_l13, I_l40, I_l43, I_l44, I_l45, I_l48, I_l57, I_l58, I_l60, I_l61, I_l62, I_l79, I_l80, I_l100, I_l101, I_l120, I_l200, I_l201, I_l1999, I_l2000, I_l2001, I_eq, if_pos]
theorem f9_isVerseY {n0 n1 b v : Int} (h : (0 ≤ n0 ∧ n0 ≤ 60) ∧ (0 ≤ n1 ∧ n1 ≤ 60)) (hv : (b = 0 ∧ 0 ≤ v ∧ v < n0) ∨ (b = 1 ∧ 0 ≤ v ∧ v < n1)) : pX9_isVerse (I n0) (I n1) (I b) (I v) = some (I 1) := by
  rw [f9_isVerse (by omega), if_pos hv]
theorem f9_isVerseN {n0 n1 b v : Int} (h : (0 ≤ n0 ∧ n0 ≤ 60) ∧ (0 ≤ n1 ∧ n1 ≤ 60) ∧ (-2147483648 ≤ b ∧ b ≤ 2147483647) ∧ -2147483648 ≤ v ∧ v ≤ 2147483647) (hv : ¬ ((b = 0 ∧ 0 ≤ v ∧ v < n0) ∨ (b = 1 ∧ 0 ≤ v ∧ v < n1))) : pX9_isVerse (I n0) (I n1) (I b) (I v) = some (I 0) := by
  rw [f9_isVerse (by omega), if_neg hv]
-- the reference's test, over both books
theorem rB_set {W : Int → Int} {b n v x y : Int} {c l o : Int → Int} (hb : 0 ≤ b ∧ b ≤ 1) (hn : n ≤ 60) (hv : 0 ≤ v ∧ v < n) (r : rB W b n c l o) : rB (up (up W (60 * b + v) x) (120 + (60 * b + v)) y) b n c (up l v x) (up o v y) := by
  refine ⟨by rw [up_ne (by omega), up_ne (by omega)]; exact r.1, by rw [up_ne (by omega), up_ne (by omega)]; exact r.2.1, fun i p q => ?_⟩
  have h := r.2.2 i p q
  refine ⟨?_, ?_, ?_⟩
  · by_cases z : i = v
    · rw [up_ne (by omega), up_at (by omega), up_at z]
    · rw [up_ne (by omega), up_ne (by omega), up_ne z]; exact h.1
  · by_cases z : i = v
    · rw [up_at (by omega), up_at z]
    · rw [up_ne (by omega), up_ne (by omega), up_ne z]; exact h.2.1
  · rw [up_ne (by omega), up_ne (by omega)]; exact h.2.2
theorem rB_setO {W : Int → Int} {b d n m v x y : Int} {c l o : Int → Int} (hb : (0 ≤ b ∧ b ≤ 1) ∧ (0 ≤ d ∧ d ≤ 1) ∧ ¬ b = d) (hn : n ≤ 60) (hv : 0 ≤ v ∧ v < m ∧ m ≤ 60) (r : rB W d n c l o) : rB (up (up W (60 * b + v) x) (120 + (60 * b + v)) y) d n c l o := by
  have hc : (b = 0 ∧ d = 1) ∨ (b = 1 ∧ d = 0) := by omega
  exact r.keep hn (by rw [up_ne (by omega), up_ne (by omega)]) (by rw [up_ne (by omega), up_ne (by omega)]) (fun i p q => ⟨by rw [up_ne (by omega), up_ne (by omega)], by rw [up_ne (by omega), up_ne (by omega)], by rw [up_ne (by omega), up_ne (by omega)]⟩)
theorem rM_set {W : Int → Int} {b v x y g : Int} {L R : Int → Int} (hb : 0 ≤ b ∧ b ≤ 1) (hg : g ≤ 120) (hv : 0 ≤ v ∧ v < 60) (r : rM W g L R) : rM (up (up W (60 * b + v) x) (120 + (60 * b + v)) y) g L R := r.keep hg (fun i p q => by rw [up_ne (by omega), up_ne (by omega)])
theorem okB_set {n v x y : Int} {c l o : Int → Int} (hx : 1 ≤ x ∧ x ≤ 2000) (hy : 0 ≤ y ∧ y ≤ 10) (h : okB n c l o) : okB n c (up l v x) (up o v y) := by
  refine ⟨h.1, fun i p q => ?_⟩
  obtain ⟨a1, a2, a3⟩ := h.2 i p q
  refine ⟨?_, ?_, a3⟩
  · by_cases z : i = v
    · rw [up_at z]; exact hx
    · rw [up_ne z]; exact a1
  · by_cases z : i = v
    · rw [up_at z]; exact hy
    · rw [up_ne z]; exact a2
section ACT4
variable {k : Int} {s0 s1 s2 s3 s4 : vST} {V W : Int → Int} {vL0 vL1 vL2 : Nat → Int32} {vL3 : Int32} {vR0 vR1 vR2 : Nat → Int32} {vR3 : Int32} {vM0 vM1 : Nat → Int32} {vM2 : Int32}
end ACT4

-- out of 46.fadd
-- a chapter added
def exf (F : Int → Int) (n v : Int) : Int → Int := fun i => if i < n then F i else v
theorem exf_lo {F : Int → Int} {n v i : Int} (h : i < n) : exf F n v i = F i := if_pos h
theorem exf_hi {F : Int → Int} {n v i : Int} (h : n ≤ i) : exf F n v i = v := if_neg (by omega)
theorem Sm_exf {F : Int → Int} {n v k : Int} (hn : 0 ≤ n) (hk : 0 ≤ k) : Sm (exf F n v) (n + k) = Sm F n + v * k := by
  refine zind (P := fun k => Sm (exf F n v) (n + k) = Sm F n + v * k) ?_ (fun k hk ih => ?_) k hk
  · rw [Int.add_zero, Int.mul_zero, Int.add_zero]
    exact Sm_congr hn (fun i a b => exf_lo b)
  · rw [show n + (k + 1) = n + k + 1 by omega, Sm_s (by omega), ih, exf_hi (by omega), Int.mul_add, Int.mul_one]
    omega
theorem opn_at {F : Int → Int} {m u i : Int} (h : i < u) : opn F m u u i = F i := by
  unfold opn cpy
  split
  · exact if_neg (by omega)
  · rfl
theorem exf_up {F G : Int → Int} {n v k : Int} (hk : 0 ≤ k) (h : ∀ i, 0 ≤ i → i < n + k → G i = exf F n v i) : ∀ i, 0 ≤ i → i < n + (k + 1) → up (opn G 60 (n + k) (n + k)) (n + k) v i = exf F n v i := by
  intro i a b
  by_cases z : i = n + k
  · rw [up_at z, exf_hi (by omega)]
  · rw [up_ne z, opn_at (by omega)]
    exact h i a (by omega)
theorem exf_up2 {F G : Int → Int} {n v k : Int} (hk : 0 ≤ k) (h : ∀ i, 0 ≤ i → i < n + k → G i = exf F n v i) : ∀ i, 0 ≤ i → i < n + (k + 1) → up G (n + k) v i = exf F n v i := by
  intro i a b
  by_cases z : i = n + k
  · rw [up_at z, exf_hi (by omega)]
  · rw [up_ne z]
    exact h i a (by omega)
theorem f9_add0 {c l o L R : Int → Int} {n g v x ch : Int} {u0 u1 u2 : Nat → Int32} {u3 hk : Int32} {r : Nat} {t0 t1 t2 t3 t4 : vST} (hn : 0 ≤ n ∧ n + v ≤ 60) (hg : 0 ≤ g ∧ g + v ≤ 120) : ∀ (m : Nat) (cc ll oo A B : Int → Int) (j : Int), 0 ≤ j → j ≤ v → v - j < m → (∀ i, 0 ≤ i → i < n + j → cc i = exf c n ch i) → (∀ i, 0 ≤ i → i < n + j → ll i = exf l n x i) → (∀ i, 0 ≤ i → i < n + j → oo i = exf o n 0 i) → (∀ i, 0 ≤ i → i < g + j → A i = exf L g 1 i) → (∀ i, 0 ≤ i → i < g + j → B i = exf R g 0 i) → ∃ c2 l2 o2 A2 B2 : Int → Int, (∀ i, 0 ≤ i → i < n + v → c2 i = exf c n ch i) ∧ (∀ i, 0 ≤ i → i < n + v → l2 i = exf l n x i) ∧ (∀ i, 0 ≤ i → i < n + v → o2 i = exf o n 0 i) ∧ (∀ i, 0 ≤ i → i < g + v → A2 i = exf L g 1 i) ∧ (∀ i, 0 ≤ i → i < g + v → B2 i = exf R g 0 i) ∧ pX9_addChapter_L88 m (cz cc) (cz ll) (cz oo) (I (n + j)) u0 u1 u2 u3 (cz A) (cz B) (I (g + j)) hk r t0 t1 t2 t3 t4 (I 0) (I v) (I x) (I ch) (I j) = some (I ch, cz c2, cz l2, cz o2, I (n + v), u0, u1, u2, u3, cz A2, cz B2, I (g + v), hk, r, t0, t1, t2, t3, t4) := by
  intro m
  induction m with
  | zero => intro cc ll oo A B j h0 h1 h2; omega
  | succ m ih =>
    intro cc ll oo A B j h0 h1 h2 hc hl ho hA hB
    by_cases q : j = v
    · subst q
      refine ⟨cc, ll, oo, A, B, hc, hl, ho, hA, hB, ?_⟩
      show pX9_addChapter_bL88 _ _ _ _ _ _ _ _ _ _ _ _ _ _ _ _ _ _ _ _ _ _ _ _ = _
      unfold pX9_addChapter_bL88
      simp (disch := omega) only [if_true, if_false, I_add, I_sub, I_mul, I_neg, I_ofNat, Option.bind_some, kIn, I_l0, I_l1, I_l2, I_l3, I_l4, I_l5, I_l6, I_l7, I_l8, I_l9, I_l10, I_l11, I_l12, I_l13, I_l40, I_l43, I_l44, I_l45, I_l48, I_l57, I_l58, I_l60, I_l61, I_l62, I_l79, I_l80, I_l100, I_l101, I_l120, I_l200, I_l201, I_l1999, I_l2000, I_l2001, I_le, if_pos]
    · obtain ⟨c2, l2, o2, A2, B2, w1, w2, w3, w4, w5, w6⟩ := ih (up (opn cc 60 (n + j) (n + j)) (n + j) ch) (up (opn ll 60 (n + j) (n + j)) (n + j) x) (up (opn oo 60 (n + j) (n + j)) (n + j) 0) (up A (g + j) 1) (up B (g + j) 0) (j + 1) (by omega) (by omega) (by omega) (exf_up h0 hc) (exf_up h0 hl) (exf_up h0 ho) (exf_up2 h0 hA) (exf_up2 h0 hB)
      refine ⟨c2, l2, o2, A2, B2, w1, w2, w3, w4, w5, ?_⟩
      show pX9_addChapter_bL88 _ _ _ _ _ _ _ _ _ _ _ _ _ _ _ _ _ _ _ _ _ _ _ _ = _
      unfold pX9_addChapter_bL88 pX9_addChapter_j124 pX9_addChapter_j134
      simp (disch := omega) only [if_true, if_false, I_add, I_sub, I_mul, I_neg, I_ofNat, Option.bind_some, kIn, I_l0, I_l1, I_l2, I_l3, I_l4, I_l5, I_l6, I_l7, I_l8, I_l9, I_l10, I_l11, I_l12, I_l13, I_l40, I_l43, I_l44, I_l45, I_l48, I_l57, I_l58, I_l60, I_l61, I_l62, I_l79, I_l80, I_l100, I_l101, I_l120, I_l200, I_l201, I_l1999, I_l2000, I_l2001, I_le, I_eq, if_neg, if_pos]
      rw [f0_insertAt (by omega), f1_append (by omega)]
      simp only [if_true, if_false, I_add, I_sub, I_mul, I_neg, I_ofNat, Option.bind_some, kIn, I_l0, I_l1, I_l2, I_l3, I_l4, I_l5, I_l6, I_l7, I_l8, I_l9, I_l10, I_l11, I_l12, I_l13, I_l40, I_l43, I_l44, I_l45, I_l48, I_l57, I_l58, I_l60, I_l61, I_l62, I_l79, I_l80, I_l100, I_l101, I_l120, I_l200, I_l201, I_l1999, I_l2000, I_l2001]
      rw [show n + j + 1 = n + (j + 1) by omega, show g + j + 1 = g + (j + 1) by omega]
      exact w6
theorem f9_add1 {c l o L R : Int → Int} {n g v x ch : Int} {u0 u1 u2 : Nat → Int32} {u3 hk : Int32} {r : Nat} {t0 t1 t2 t3 t4 : vST} (hn : 0 ≤ n ∧ n + v ≤ 60) (hg : 0 ≤ g ∧ g + v ≤ 120) : ∀ (m : Nat) (cc ll oo A B : Int → Int) (j : Int), 0 ≤ j → j ≤ v → v - j < m → (∀ i, 0 ≤ i → i < n + j → cc i = exf c n ch i) → (∀ i, 0 ≤ i → i < n + j → ll i = exf l n x i) → (∀ i, 0 ≤ i → i < n + j → oo i = exf o n 0 i) → (∀ i, 0 ≤ i → i < g + j → A i = exf L g 0 i) → (∀ i, 0 ≤ i → i < g + j → B i = exf R g 1 i) → ∃ c2 l2 o2 A2 B2 : Int → Int, (∀ i, 0 ≤ i → i < n + v → c2 i = exf c n ch i) ∧ (∀ i, 0 ≤ i → i < n + v → l2 i = exf l n x i) ∧ (∀ i, 0 ≤ i → i < n + v → o2 i = exf o n 0 i) ∧ (∀ i, 0 ≤ i → i < g + v → A2 i = exf L g 0 i) ∧ (∀ i, 0 ≤ i → i < g + v → B2 i = exf R g 1 i) ∧ pX9_addChapter_L88a m u0 u1 u2 u3 (cz cc) (cz ll) (cz oo) (I (n + j)) (cz A) (cz B) (I (g + j)) hk r t0 t1 t2 t3 t4 (I 1) (I v) (I x) (I ch) (I j) = some (I ch, u0, u1, u2, u3, cz c2, cz l2, cz o2, I (n + v), cz A2, cz B2, I (g + v), hk, r, t0, t1, t2, t3, t4) := by
  intro m
  induction m with
  | zero => intro cc ll oo A B j h0 h1 h2; omega
  | succ m ih =>
    intro cc ll oo A B j h0 h1 h2 hc hl ho hA hB
    by_cases q : j = v
    · subst q
      refine ⟨cc, ll, oo, A, B, hc, hl, ho, hA, hB, ?_⟩
      show pX9_addChapter_bL88a _ _ _ _ _ _ _ _ _ _ _ _ _ _ _ _ _ _ _ _ _ _ _ _ = _
      unfold pX9_addChapter_bL88a
      simp (disch := omega) only [if_true, if_false, I_add, I_sub, I_mul, I_neg, I_ofNat, Option.bind_some, kIn, I_l0, I_l1, I_l2, I_l3, I_l4, I_l5, I_l6, I_l7, I_l8, I_l9, I_l10, I_l11, I_l12, I_l13, I_l40, I_l43, I_l44, I_l45, I_l48, I_l57, I_l58, I_l60, I_l61, I_l62, I_l79, I_l80, I_l100, I_l101, I_l120, I_l200, I_l201, I_l1999, I_l2000, I_l2001, I_le, if_pos]
    · obtain ⟨c2, l2, o2, A2, B2, w1, w2, w3, w4, w5, w6⟩ := ih (up (opn cc 60 (n + j) (n + j)) (n + j) ch) (up (opn ll 60 (n + j) (n + j)) (n + j) x) (up (opn oo 60 (n + j) (n + j)) (n + j) 0) (up A (g + j) 0) (up B (g + j) 1) (j + 1) (by omega) (by omega) (by omega) (exf_up h0 hc) (exf_up h0 hl) (exf_up h0 ho) (exf_up2 h0 hA) (exf_up2 h0 hB)
      refine ⟨c2, l2, o2, A2, B2, w1, w2, w3, w4, w5, ?_⟩
      show pX9_addChapter_bL88a _ _ _ _ _ _ _ _ _ _ _ _ _ _ _ _ _ _ _ _ _ _ _ _ = _
      unfold pX9_addChapter_bL88a pX9_addChapter_j124a pX9_addChapter_j134a
      simp (disch := omega) only [if_true, if_false, I_add, I_sub, I_mul, I_neg, I_ofNat, Option.bind_some, kIn, I_l0, I_l1, I_l2, I_l3, I_l4, I_l5, I_l6, I_l7, I_l8, I_l9, I_l10, I_l11, I_l12, I_l13, I_l40, I_l43, I_l44, I_l45, I_l48, I_l57, I_l58, I_l60, I_l61, I_l62, I_l79, I_l80, I_l100, I_l101, I_l120, I_l200, I_l201, I_l1999, I_l2000, I_l2001, I_le, I_eq, if_neg, if_pos]
      rw [f0_insertAt (by omega), f1_append (by omega)]
      simp only [if_true, if_false, I_add, I_sub, I_mul, I_neg, I_ofNat, Option.bind_some, kIn, I_l0, I_l1, I_l2, I_l3, I_l4, I_l5, I_l6, I_l7, I_l8, I_l9, I_l10, I_l11, I_l12, I_l13, I_l40, I_l43, I_l44, I_l45, I_l48, I_l57, I_l58, I_l60, I_l61, I_l62, I_l79, I_l80, I_l100, I_l101, I_l120, I_l200, I_l201, I_l1999, I_l2000, I_l2001]
      rw [show n + j + 1 = n + (j + 1) by omega, show g + j + 1 = g + (j + 1) by omega]
      exact w6
-- the reference's row with j verses added
def rA (X W : Int → Int) (b n g x ch j : Int) : Prop := X (360 + b) = n + j ∧ X (362 + b) = ch ∧ X 364 = g + j ∧ (∀ i, n ≤ i → i < n + j → X (60 * b + i) = x ∧ X (120 + 60 * b + i) = 0 ∧ X (240 + 60 * b + i) = ch) ∧ (∀ i, g ≤ i → i < g + j → X (365 + i) = 1 - b ∧ X (485 + i) = b) ∧ ∀ i, ¬ i = 360 + b → ¬ i = 362 + b → ¬ i = 364 → ¬ (60 * b + n ≤ i ∧ i < 60 * b + n + j) → ¬ (120 + 60 * b + n ≤ i ∧ i < 120 + 60 * b + n + j) → ¬ (240 + 60 * b + n ≤ i ∧ i < 240 + 60 * b + n + j) → ¬ (365 + g ≤ i ∧ i < 365 + g + j) → ¬ (485 + g ≤ i ∧ i < 485 + g + j) → X i = W i
def ad1 (X : Int → Int) (b n x ch j : Int) : Int → Int := up (up (up (up X (60 * b + (n + j)) x) (120 + (60 * b + (n + j))) 0) (240 + (60 * b + (n + j))) ch) (360 + b) (n + j + 1)
def ad2 (X : Int → Int) (b n g x ch j : Int) : Int → Int := up (up (up (ad1 X b n x ch j) (365 + (g + j)) (1 - b)) (485 + (g + j)) b) 364 (g + j + 1)
theorem ad1_ne {X : Int → Int} {b n x ch j i : Int} (h : ¬ i = 60 * b + (n + j) ∧ ¬ i = 120 + (60 * b + (n + j)) ∧ ¬ i = 240 + (60 * b + (n + j)) ∧ ¬ i = 360 + b) : ad1 X b n x ch j i = X i := by
  unfold ad1
  rw [up_ne h.2.2.2, up_ne h.2.2.1, up_ne h.2.1, up_ne h.1]
theorem ad2_ne {X : Int → Int} {b n g x ch j i : Int} (h : ¬ i = 365 + (g + j) ∧ ¬ i = 485 + (g + j) ∧ ¬ i = 364) : ad2 X b n g x ch j i = ad1 X b n x ch j i := by
  unfold ad2
  rw [up_ne h.2.2, up_ne h.2.1, up_ne h.1]
theorem ad1_at {X : Int → Int} {b n x ch j : Int} (h : (0 ≤ b ∧ b ≤ 1) ∧ 0 ≤ n + j ∧ n + j < 60) : ad1 X b n x ch j (60 * b + (n + j)) = x ∧ ad1 X b n x ch j (120 + (60 * b + (n + j))) = 0 ∧ ad1 X b n x ch j (240 + (60 * b + (n + j))) = ch ∧ ad1 X b n x ch j (360 + b) = n + j + 1 := by
  have hb : b = 0 ∨ b = 1 := by omega
  unfold ad1
  refine ⟨?_, ?_, ?_, ?_⟩
  · rw [up_ne (by omega), up_ne (by omega), up_ne (by omega), up_at (by omega)]
  · rw [up_ne (by omega), up_ne (by omega), up_at (by omega)]
  · rw [up_ne (by omega), up_at (by omega)]
  · rw [up_at (by omega)]
theorem ad2_at {X : Int → Int} {b n g x ch j : Int} (h : 0 ≤ g + j ∧ g + j < 120) : ad2 X b n g x ch j (365 + (g + j)) = 1 - b ∧ ad2 X b n g x ch j (485 + (g + j)) = b ∧ ad2 X b n g x ch j 364 = g + j + 1 := by
  unfold ad2
  refine ⟨?_, ?_, ?_⟩
  · rw [up_ne (by omega), up_ne (by omega), up_at (by omega)]
  · rw [up_ne (by omega), up_at (by omega)]
  · rw [up_at (by omega)]
theorem rA.add {X W : Int → Int} {b n g x ch j : Int} (hb : 0 ≤ b ∧ b ≤ 1) (hn : 0 ≤ n ∧ 0 ≤ j ∧ n + j < 60) (hg : 0 ≤ g ∧ g + j < 120) (r : rA X W b n g x ch j) : rA (ad2 X b n g x ch j) W b n g x ch (j + 1) := by
  obtain ⟨r1, r2, r3, r4, r5, r6⟩ := r
  have hb2 : b = 0 ∨ b = 1 := by omega
  have a1 := ad1_at (X := X) (x := x) (ch := ch) ⟨hb, show 0 ≤ n + j by omega, hn.2.2⟩
  have a2 := ad2_at (X := X) (b := b) (n := n) (x := x) (ch := ch) ⟨show 0 ≤ g + j by omega, hg.2⟩
  refine ⟨?_, ?_, ?_, fun i p q => ?_, fun i p q => ?_, fun i p1 p2 p3 p4 p5 p6 p7 p8 => ?_⟩
  · rw [ad2_ne (by omega), a1.2.2.2]; omega
  · rw [ad2_ne (by omega), ad1_ne (by omega)]; exact r2
  · rw [a2.2.2]; omega
  · by_cases z : i = n + j
    · rw [z, show 120 + 60 * b + (n + j) = 120 + (60 * b + (n + j)) by omega, show 240 + 60 * b + (n + j) = 240 + (60 * b + (n + j)) by omega, ad2_ne (by omega), ad2_ne (by omega), ad2_ne (by omega)]
      exact ⟨a1.1, a1.2.1, a1.2.2.1⟩
    · rw [ad2_ne (by omega), ad2_ne (by omega), ad2_ne (by omega), ad1_ne (by omega), ad1_ne (by omega), ad1_ne (by omega)]
      exact r4 i p (by omega)
  · by_cases z : i = g + j
    · rw [z]; exact ⟨a2.1, a2.2.1⟩
    · rw [ad2_ne (by omega), ad2_ne (by omega), ad1_ne (by omega), ad1_ne (by omega)]
      exact r5 i p (by omega)
  · rw [ad2_ne (by omega), ad1_ne (by omega)]
    exact r6 i p1 p2 p3 (by omega) (by omega) (by omega) (by omega) (by omega)
