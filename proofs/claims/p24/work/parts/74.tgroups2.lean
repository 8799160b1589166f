-- the law's look at the groups: its loop
section TG2
variable {x : Sg} {c0 l0 o0 : Int → Int} {n0 : Int} {c1 l1 o1 : Int → Int} {n1 : Int} {L R : Int → Int} {g k w0 w1 ph h : Int}
theorem tg_78 (d : dX x c0 l0 o0 n0 c1 l1 o1 n1 L R g k w0 w1 ph h) {i n m le ri : Int} (G : gI L R n0 n1 g i n m le ri) {K : (Nat → Int32) → Int32 → Int32 → Int32 → Int32 → Int32 → Option Int32} {F : Int → Int} {em : Int} : pL_groups_j78 x K (cz F) (I h) (I le) (I ri) (I em) (I i) (I n) (I m) (I (knd n m)) = K (cz (up F (knd n m) (F (knd n m) + 1))) (I h) (I (le + n)) (I (ri + m)) (I (em + emp c0 l0 c1 l1 L R w0 w1 h i)) (I (i + 1)) := by
  have G' := G
  obtain ⟨hi, e1, e2, e3, e4, e5, e6, hn, hm, hnm, hl, hr, hg⟩ := G'
  obtain ⟨-, -, -, -, kM, -, -, -, -, hh⟩ := id d
  have hA : Sm (vln c0 l0 w0 h) (le + n) - Sm (vln c0 l0 w0 h) le = ned (vln c0 l0 w0 h) L i := by unfold ned; rw [e5, e3]
  have hB : Sm (vln c1 l1 w1 h) (ri + m) - Sm (vln c1 l1 w1 h) ri = ned (vln c1 l1 w1 h) R i := by unfold ned; rw [e6, e4]
  unfold pL_groups_j78
  refine obind (T_need d.b0 hh (a := le) (m := n) (by omega)) (obind (T_need d.b1 hh (a := ri) (m := m) (by omega)) ?_)
  refine (tg_108 d G hA hB 4000 0 le (by omega) (by omega) (by omega) (by omega)).trans ?_
  rw [hA, hB]
  rfl
theorem tg_15 (d : dX x c0 l0 o0 n0 c1 l1 o1 n1 L R g k w0 w1 ph h) : ∀ (mm : Nat) (F : Int → Int) (i : Int), 0 ≤ i → i ≤ g → g - i < mm → (∀ t, 0 ≤ t → t ≤ 3 → F t = ksm L R t i) → pL_groups_L15 x mm (cz F) (I h) (I (Sm L i)) (I (Sm R i)) (I (Sm (emp c0 l0 c1 l1 L R w0 w1 h) i)) (I i) = some (I 1) := by
  obtain ⟨-, -, k0, k1, kM, -⟩ := id d
  have b0 := k0.1
  have b1 := k1.1
  have hg := kM.1
  intro mm
  induction mm with
  | zero => intro F i a1 a2 a3; omega
  | succ mm ih =>
    intro F i a1 a2 a3 hF
    show pL_groups_bL15 _ _ _ _ _ _ _ _ = _
    unfold pL_groups_bL15
    refine obind (q_c4 d) ?_
    by_cases q : i = g
    · subst q
      rw [if_pos (by rw [I_le (by omega)]; omega)]
      refine obind (q_c5 d) ((if_pos (by decide)).trans ((if_pos ?_).trans ?_))
      · show _ = I (F 0)
        rw [hF 0 (by omega) (by omega)]
      refine obind (q_c6 d) ((if_pos (by decide)).trans ((if_pos ?_).trans ?_))
      · show _ = I (F 1)
        rw [hF 1 (by omega) (by omega)]
      refine obind (q_c7 d) ((if_pos (by decide)).trans ((if_pos ?_).trans ?_))
      · show _ = I (F 2)
        rw [hF 2 (by omega) (by omega)]
      refine obind (q_c8 d) ((if_pos (by decide)).trans ((if_pos ?_).trans ?_))
      · show _ = I (F 3)
        rw [hF 3 (by omega) (by omega)]
      refine obind (q_c10 d) ((if_pos rfl).trans ?_)
      unfold pL_groups_j539
      rw [if_neg (by decide)]
      refine obind (q_c2 d) ((if_pos (by rw [kM.2.2.1])).trans (obind (q_c3 d) ((if_pos (by rw [kM.2.2.2])).trans (obind (q_c4 d) (obind (q_groupN d (by omega) (by omega)) ((if_pos rfl).trans (obind (q_c2 d) ?_)))))))
      exact obind (q_besideN d (b := 0) (v := n0) (by omega) (by omega) (by omega)) (if_pos rfl)
    · rw [if_neg (by rw [I_le (by omega)]; omega)]
      have hi : 0 ≤ i ∧ i < g := by omega
      have G := gI_of d hi
      have G' := G
      obtain ⟨-, -, -, -, -, e5, e6, hn, hm, hnm, hl, hr, -⟩ := G'
      have fin := ih (up F (knd (L i) (R i)) (F (knd (L i) (R i)) + 1)) (i + 1) (by omega) (by omega) (by omega) (fun t t0 t3 => by
        have e : ksm L R t (i + 1) = ksm L R t i + (if knd (L i) (R i) = t then 1 else 0) := Sm_s a1
        by_cases z : knd (L i) (R i) = t
        · rw [e, if_pos z, up_at z.symm, z, hF t t0 t3]
        · rw [e, if_neg z, up_ne (fun y => z y.symm), hF t t0 t3, Int.add_zero])
      have hem : Sm (emp c0 l0 c1 l1 L R w0 w1 h) (i + 1) = Sm (emp c0 l0 c1 l1 L R w0 w1 h) i + emp c0 l0 c1 l1 L R w0 w1 h i := Sm_s a1
      rw [e5, e6, hem] at fin
      have key := (tg_78 d G (K := pL_groups_L15 x mm) (F := F) (em := Sm (emp c0 l0 c1 l1 L R w0 w1 h) i)).trans fin
      refine obind (q_g2 d hi) (obind (q_g4 d hi) ?_)
      by_cases z1 : R i = 0
      · rw [if_pos (by rw [z1]; rfl)]
        have e : knd (L i) (R i) = 1 := if_pos z1
        rw [e] at key
        exact key
      · rw [if_neg (by rw [I_l0, I_eq (by omega)]; exact z1)]
        by_cases z2 : L i = 0
        · rw [if_pos (by rw [z2]; rfl)]
          have e : knd (L i) (R i) = 2 := (if_neg z1).trans (if_pos z2)
          rw [e] at key
          exact key
        · rw [if_neg (by rw [I_l0, I_eq (by omega)]; exact z2)]
          by_cases z3 : L i = 1
          · rw [if_pos (by rw [z3]; rfl)]
            by_cases z4 : R i = 1
            · rw [if_pos (by rw [z4]; rfl)]
              have e : knd (L i) (R i) = 0 := (if_neg z1).trans ((if_neg z2).trans (if_pos ⟨z3, z4⟩))
              rw [e] at key
              exact key
            · rw [if_neg (by rw [I_l1, I_eq (by omega)]; exact z4)]
              unfold pL_groups_j77
              have e : knd (L i) (R i) = 3 := (if_neg z1).trans ((if_neg z2).trans (if_neg (fun y => z4 y.2)))
              rw [e] at key
              exact key
          · rw [if_neg (by rw [I_l1, I_eq (by omega)]; exact z3)]
            unfold pL_groups_j77
            have e : knd (L i) (R i) = 3 := (if_neg z1).trans ((if_neg z2).trans (if_neg (fun y => z3 y.1)))
            rw [e] at key
            exact key
theorem T_groups (d : dX x c0 l0 o0 n0 c1 l1 o1 n1 L R g k w0 w1 ph h) : pL_groups x (I h) = some (I 1) := by
  have hg := d.2.2.2.2.1.1
  exact tg_15 d 4000 (fun _ => 0) 0 (by omega) (by omega) (by omega) (fun t _ _ => rfl)
end TG2
