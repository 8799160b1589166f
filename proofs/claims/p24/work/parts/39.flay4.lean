-- out of 39.flay4
-- arranged: the class's layout whole
section ARR
variable {c0 l0 o0 c1 l1 o1 L R : Int → Int} {n0 n1 g w0 w1 h ph : Int}
theorem f3_arrange {hc nc pn ls : Int → Int} {c9 : Int} (hB0 : okB n0 c0 l0 o0) (hB1 : okB n1 c1 l1 o1) (hM : okM g L R n0 n1) (hw0 : 1 ≤ w0 ∧ w0 ≤ 200) (hw1 : 1 ≤ w1 ∧ w1 ≤ 200) (hh : 0 ≤ h ∧ h ≤ 5) (hph : 0 ≤ ph ∧ ph ≤ 200) : ∃ hc2 nc2 pn2 ls2 : Int → Int, (∀ j, 0 ≤ j → j < g → hc2 j = hgt c0 l0 c1 l1 L R w0 w1 h j ∧ nc2 j = nts o0 o1 L R j ∧ pn2 j = pgP (hgt c0 l0 c1 l1 L R w0 w1 h) (nts o0 o1 L R) ph j ∧ ls2 j = pgL (hgt c0 l0 c1 l1 L R w0 w1 h) (nts o0 o1 L R) ph j) ∧ pX3_arrange (I w0) (I w1) (I ph) (I h) (cz hc) (cz nc) (cz pn) (cz ls) (I c9) (cz c0) (cz l0) (cz o0) (I n0) (cz c1) (cz l1) (cz o1) (I n1) (cz L) (cz R) (I g) = some (cz hc2, cz nc2, cz pn2, cz ls2, I g, I (pgC (hgt c0 l0 c1 l1 L R w0 w1 h) (nts o0 o1 L R) ph g), I (Sm (emp c0 l0 c1 l1 L R w0 w1 h) g)) := by
  have hg := hM.1
  obtain ⟨hc2, nc2, r1, r2⟩ := f3_measure_L hB0 hB1 hM hw0 hw1 hh 4000 hc nc 0 0 (by omega) (by omega) (by omega) (fun j a b => by omega) rfl
  obtain ⟨pn2, ls2, r3, r4⟩ := f3_fillPages (hc := hc2) (nc := nc2) (ht := hgt c0 l0 c1 l1 L R w0 w1 h) (nt := nts o0 o1 L R) (pn := pn) (ls := ls) (ph := ph) (g := g) (c9 := c9) hg (by omega) (hgt_bd hB0 hB1 hM hw0 hw1 hh) (nts_bd hB0 hB1 hM) (fun i a b => (r1 i a b).1) (fun i a b => (r1 i a b).2)
  refine ⟨hc2, nc2, pn2, ls2, fun j a b => ⟨(r1 j a b).1, (r1 j a b).2, (r3 j a b).1, (r3 j a b).2⟩, ?_⟩
  unfold pX3_arrange pX3_measureGroups
  have e0 : ¬ (120 : Int32) < I g := by
    intro z
    have z2 : I 120 < I g := z
    rw [I_lt (by omega)] at z2
    omega
  rw [Sm_0, Sm_0] at r2
  rw [if_neg e0]
  simp only [if_true, if_false, I_add, I_sub, I_mul, I_neg, I_ofNat, Option.bind_some, kIn, I_l0, I_l1, I_l2, I_l3, I_l4, I_l5, I_l6, I_l7, I_l8, I_l9, I_l10, I_l11, I_l12, I_l13, I_l40, I_l43, I_l44, I_l45, I_l48, I_l57, I_l58, I_l60, I_l61, I_l62, I_l79, I_l80, I_l100, I_l101, I_l120, I_l200, I_l201, I_l1999, I_l2000, I_l2001]
  rw [r2]
  simp only [if_true, if_false, I_add, I_sub, I_mul, I_neg, I_ofNat, Option.bind_some, kIn, I_l0, I_l1, I_l2, I_l3, I_l4, I_l5, I_l6, I_l7, I_l8, I_l9, I_l10, I_l11, I_l12, I_l13, I_l40, I_l43, I_l44, I_l45, I_l48, I_l57, I_l58, I_l60, I_l61, I_l62, I_l79, I_l80, I_l100, I_l101, I_l120, I_l200, I_l201, I_l1999, I_l2000, I_l2001]
  rw [r4]
  rfl
end ARR
-- the reference's: heights, notes of a group
section RG
variable {W w c0 l0 o0 c1 l1 o1 L R : Int → Int} {n0 n1 g h ph : Int}
-- the reference lays pages
end RG

