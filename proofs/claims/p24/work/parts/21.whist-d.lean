-- State.bookOf, History (printed by wip/whole/gen/whist.py)
set_option maxHeartbeats 8000000 in
set_option maxRecDepth 100000 in
theorem kX2_restore (l : Launch) (D : va_G) (cI cC cS : ClassId) (aH : aHI) (vH0 : Int32) (vH2 : vST) (vH3 : vST) (vH4 : vST) (vH5 : vST) (vH6 : vST) (aS : Nat) (aL : Nat × Nat × Nat × Nat) (vL0 : (Nat → Int32)) (vL1 : (Nat → Int32)) (vL2 : (Nat → Int32)) (vL3 : Int32) (aR : Nat × Nat × Nat × Nat) (vR0 : (Nat → Int32)) (vR1 : (Nat → Int32)) (vR2 : (Nat → Int32)) (vR3 : Int32) (aM : Nat × Nat × Nat) (vM0 : (Nat → Int32)) (vM1 : (Nat → Int32)) (vM2 : Int32) (sz : Nat) {q : Int32 × (Nat → Int32) × (Nat → Int32) × (Nat → Int32) × Int32 × (Nat → Int32) × (Nat → Int32) × (Nat → Int32) × Int32 × (Nat → Int32) × (Nat → Int32) × Int32} (h : pX2_restore vH0 vH2 vH3 vH4 vH5 vH6 vL0 vL1 vL2 vL3 vR0 vR1 vR2 vR3 vM0 vM1 vM2 = some q) : kMv l yX2_restore wsX2_restore ({ frames := 5, cells := 0, slots := 0, locals := 118 } : Room) D (kTy cI cC cS) [.ref aH.1, .ref aS] (wHF cI cS aH vH0 (hRo aH 0) vH2 vH3 vH4 vH5 vH6 ++ (wSC aS aL.1 aR.1 aM.1 ++ (wBK cI aL vL0 vL1 vL2 vL3 ++ (wBK cI aR vR0 vR1 vR2 vR3 ++ wMP cI aM vM0 vM1 vM2)))) sz (wHI cI cS aH q.1 0 vH2 vH3 vH4 vH5 vH6 ++ (wSC aS aL.1 aR.1 aM.1 ++ (wBK cI aL q.2.1 q.2.2.1 q.2.2.2.1 q.2.2.2.2.1 ++ (wBK cI aR q.2.2.2.2.2.1 q.2.2.2.2.2.2.1 q.2.2.2.2.2.2.2.1 q.2.2.2.2.2.2.2.2.1 ++ wMP cI aM q.2.2.2.2.2.2.2.2.2.1 q.2.2.2.2.2.2.2.2.2.2.1 q.2.2.2.2.2.2.2.2.2.2.2)))) := by
  refine Met.ofW (cc := cX2_restore) (maxL := 3) (ret := none) (by decide) rfl ?_
  intro p e s m args below meth c s₁ B hml hv
  obtain ⟨rfl, hsz, hP, hK, hD0, hN⟩ := hv
  have hx := B.exec
  have hb := B.bytes
  have hr := B.returns
  have hts := atoms_spec (ws := wsX2_restore) B.pre
  have hown : s.vm.findClass RX2 = some m.cls := findClass_of_methodNamed B.named
  have hlocks := B.notSynchronized
  subst hsz
  have hD := hD0.self (sz := s.heap.size)
  generalize hAe : va_A (wHF cI cS aH vH0 (hRo aH 0) vH2 vH3 vH4 vH5 vH6 ++ (wSC aS aL.1 aR.1 aM.1 ++ (wBK cI aL vL0 vL1 vL2 vL3 ++ (wBK cI aR vR0 vR1 vR2 vR3 ++ wMP cI aM vM0 vM1 vM2)))) s.heap.size = A at hD ⊢
  have hA : ∀ q : Nat, s.heap.size ≤ q → A q := fun q h => by rw [← hAe]; exact Or.inr h
  have hS : va_S A s.heap s.heap [] := va_S.rf
  have huX2 : ∀ w ∈ u_ws RX2 TX2 2, w ∈ wsX2_restore := by decide +kernel
  have hl := lv_entry ([.ref aH.1, .ref aS]) (n := 3) (Nat.le_of_ble_eq_true rfl)
  rw [lg_entry_eq]
  generalize (lg_sl ([.ref aH.1, .ref aS]) ++ List.replicate (3 - (lg_sl ([.ref aH.1, .ref aS])).length) Slot.unset).toArray = ls at hl ⊢
  have hl : lv_has ls 3 [(0, .ref aH.1), (1, .ref aS)] := hl
  unfold pX2_restore at h
  by_cases g1 : vH0 = 1
  · rw [if_pos g1] at h
    subst g1
    refine lv_aload_n hx hb dX2_restore_0 rfl (lv_at hl 0 rfl) ?_
    refine va_get (D := D) (ci := 2) (v := .int (1 : Int32)) (C := RX2) (T := TX2) (N := 2) hx hb hts huX2 hown hK hP 0 rfl rfl 1 (by decide) (hts (.fieldLink RX2 18 "VerseColumns$History" "states" "I") (by decide +kernel)) (fun _ h9 => h9) rfl dX2_restore_1 ?_
    refine lv_iconst (v := (1 : Int32)) hx hb dX2_restore_4 (by decide) ?_
    refine lv_icmp_lt (tgt := 16) hx hb dX2_restore_5 (by decide) (fun g => absurd g (by decide)) (fun g => ?_)
    refine lv_aload_n hx hb dX2_restore_8 rfl (lv_at hl 0 rfl) ?_
    refine va_get (D := D) (ci := 2) (v := .int (1 : Int32)) (C := RX2) (T := TX2) (N := 2) hx hb hts huX2 hown hK hP 0 rfl rfl 1 (by decide) (hts (.fieldLink RX2 18 "VerseColumns$History" "states" "I") (by decide +kernel)) (fun _ h9 => h9) rfl dX2_restore_9 ?_
    refine lv_iconst (v := (5 : Int32)) hx hb dX2_restore_12 (by decide) ?_
    refine lv_icmp_le (tgt := 17) hx hb dX2_restore_13 (by decide) (fun g => ?_) (fun g => absurd (by decide) g)
    refine lv_aload_n hx hb dX2_restore_17 rfl (lv_at hl 0 rfl) ?_
    refine va_get (D := D) (ci := 2) (v := .ref aH.2.1) (C := RX2) (T := TX2) (N := 2) hx hb hts huX2 hown hK hP 0 rfl rfl 0 (by decide) (hts (.fieldLink RX2 11 "VerseColumns$History" "rows" "[LVerseColumns$State;") (by decide +kernel)) (fun _ h9 => h9) rfl dX2_restore_18 ?_
    refine lv_aload_n hx hb dX2_restore_21 rfl (lv_at hl 0 rfl) ?_
    refine va_get (D := D) (ci := 2) (v := .int (1 : Int32)) (C := RX2) (T := TX2) (N := 2) hx hb hts huX2 hown hK hP 0 rfl rfl 1 (by decide) (hts (.fieldLink RX2 18 "VerseColumns$History" "states" "I") (by decide +kernel)) (fun _ h9 => h9) rfl dX2_restore_22 ?_
    refine lv_iconst (v := (1 : Int32)) hx hb dX2_restore_25 (by decide) ?_
    refine lv_isub hx hb dX2_restore_26 ?_
    rw [show ((1 : Int32) - (1 : Int32)) = (0 : Int32) from rfl]
    refine va_aldq hx hb hK hP 1 2 rfl rfl (kin (i := (0 : Int32)) (n := 5) (by decide)) dX2_restore_27 ?_
    rw [kc0]
    rw [show va_rf ((hRo aH 0) 0) = .ref aH.2.2.1.1 from rfl]
    refine lv_astore_n (lv' := [(2, .ref aH.2.2.1.1), (0, .ref aH.1), (1, .ref aS)]) hx hb dX2_restore_28 rfl hl (by decide) rfl (fun ls hl => ?_)
    refine lv_aload_n hx hb dX2_restore_29 rfl (lv_at hl 0 rfl) ?_
    refine lv_ifnull hx hb dX2_restore_30 ?_
    refine lv_aload_n hx hb dX2_restore_33 rfl (lv_at hl 2 rfl) ?_
    refine lv_aload_n hx hb dX2_restore_34 rfl (lv_at hl 0 rfl) ?_
    refine kcvw (ws' := (wHF cI cS aH (1 : Int32) (hRo aH 0) vH2 vH3 vH4 vH5 vH6 ++ (wSC aS aL.1 aR.1 aM.1 ++ (wBK cI aL vH2.1.1 vH2.1.2.1 vH2.1.2.2.1 vH2.1.2.2.2 ++ (wBK cI aR vH2.2.1.1 vH2.2.1.2.1 vH2.2.1.2.2.1 vH2.2.1.2.2.2 ++ wMP cI aM vH2.2.2.1 vH2.2.2.2.1 vH2.2.2.2.2))))) [62, 63, 64, 65, 66, 67, 68, 69, 70, 71, 72, 73, 2, 3, 4, 5, 6, 7, 8, 9, 10, 11, 12, 13] (va_runV (As := [.ref aH.2.2.1.1]) (rest := []) ⟨hx, hb, hml, hown, hts⟩ (kX7_copyFrom l D cI cC cS aS aL vL0 vL1 vL2 vL3 aR vR0 vR1 vR2 vR3 aM vM0 vM1 vM2 aH.2.2.1.1 aH.2.2.1.2.1 vH2.1.1 vH2.1.2.1 vH2.1.2.2.1 vH2.1.2.2.2 aH.2.2.1.2.2.1 vH2.2.1.1 vH2.2.1.2.1 vH2.2.1.2.2.1 vH2.2.1.2.2.2 aH.2.2.1.2.2.2 vH2.2.2.1 vH2.2.2.2.1 vH2.2.2.2.2 s.heap.size (q := (vH2.1.1, vH2.1.2.1, vH2.1.2.2.1, vH2.1.2.2.2, vH2.2.1.1, vH2.2.1.2.1, vH2.2.1.2.2.1, vH2.2.1.2.2.2, vH2.2.2.1, vH2.2.2.2.1, vH2.2.2.2.2)) rfl) (cwV 1 hts gX2_restore_X7_copyFrom rfl rfl rfl (by decide +kernel) ⟨Nat.le_of_ble_eq_true rfl, Nat.le_of_ble_eq_true rfl⟩) (kpreV hK hN hP hD [62, 63, 64, 65, 66, 67, 68, 69, 70, 71, 72, 73, 2, 3, 4, 5, 6, 7, 8, 9, 10, 11, 12, 13] rfl (by decide +kernel) 7 rfl rfl) rfl rfl hl.1 rfl (lv_room (Nat.le_of_ble_eq_true rfl)) dX2_restore_35 ⟨Nat.le_refl _, Nat.le_refl _⟩) hP hD hS hA rfl (by decide +kernel) rfl [0, 0, 13, 14, 15, 16, 17, 18, 19, 20, 21, 22, 23, 24, 0, 0, 0, 0, 0, 0, 0, 0, 0, 0, 0, 0, 0, 0, 0, 0, 0, 0, 0, 0, 0, 0, 0, 0, 0, 0, 0, 0, 0, 0, 0, 0, 0, 0, 0, 0, 0, 0, 0, 0, 0, 0, 0, 0, 0, 0, 0, 0, 1, 2, 3, 4, 5, 6, 7, 8, 9, 10, 11, 12] (by decide +kernel) rfl (fun H locs hP hD hS => ?_)
    refine lv_aload_n hx hb dX2_restore_38 rfl (lv_at hl 1 rfl) ?_
    refine lv_dup hx hb dX2_restore_39 rfl ?_
    refine va_get (D := D) (ci := 2) (v := .int (1 : Int32)) (C := RX2) (T := TX2) (N := 2) hx hb hts huX2 hown hK hP 0 rfl rfl 1 (by decide) (hts (.fieldLink RX2 18 "VerseColumns$History" "states" "I") (by decide +kernel)) (fun _ h9 => h9) rfl dX2_restore_40 ?_
    refine lv_iconst (v := (1 : Int32)) hx hb dX2_restore_43 (by decide) ?_
    refine lv_isub hx hb dX2_restore_44 ?_
    rw [show ((1 : Int32) - (1 : Int32)) = (0 : Int32) from rfl]
    refine va_put (D := D) (ci := 2) (v := .int (0 : Int32)) (ty := .int) (C := RX2) (T := TX2) (N := 2) hx hb hts huX2 tyX2 tyX2_ok nmX2 hown hK hP hD hS 0 rfl rfl 1 (by decide) (hts (.fieldLink RX2 18 "VerseColumns$History" "states" "I") (by decide +kernel)) (fun _ h9 => h9) rfl (by decide +kernel) rfl rfl (Nat.le_of_ble_eq_true rfl) dX2_restore_45 (fun H locs hP hD hS => ?_)
    have hP : va_P D vwCl (wHF cI cS aH (0 : Int32) (hRo aH 0) vH2 vH3 vH4 vH5 vH6 ++ (wSC aS aL.1 aR.1 aM.1 ++ (wBK cI aL vH2.1.1 vH2.1.2.1 vH2.1.2.2.1 vH2.1.2.2.2 ++ (wBK cI aR vH2.2.1.1 vH2.2.1.2.1 vH2.2.1.2.2.1 vH2.2.1.2.2.2 ++ wMP cI aM vH2.2.2.1 vH2.2.2.2.1 vH2.2.2.2.2)))) H := hP
    have hD : va_D A (wHF cI cS aH (0 : Int32) (hRo aH 0) vH2 vH3 vH4 vH5 vH6 ++ (wSC aS aL.1 aR.1 aM.1 ++ (wBK cI aL vH2.1.1 vH2.1.2.1 vH2.1.2.2.1 vH2.1.2.2.2 ++ (wBK cI aR vH2.2.1.1 vH2.2.1.2.1 vH2.2.1.2.2.1 vH2.2.1.2.2.2 ++ wMP cI aM vH2.2.2.1 vH2.2.2.2.1 vH2.2.2.2.2)))) := hD
    obtain rfl := Option.some.inj h
    exact W.vret hx hb hr (fun t ht hW => ⟨⟨(), rfl, trivial, by rw [ht]; exact hP, hD⟩, hS.F ht⟩) hS.2.2 dX2_restore_48
  rw [if_neg g1] at h
  by_cases g2 : vH0 = 2
  · rw [if_pos g2] at h
    subst g2
    refine lv_aload_n hx hb dX2_restore_0 rfl (lv_at hl 0 rfl) ?_
    refine va_get (D := D) (ci := 2) (v := .int (2 : Int32)) (C := RX2) (T := TX2) (N := 2) hx hb hts huX2 hown hK hP 0 rfl rfl 1 (by decide) (hts (.fieldLink RX2 18 "VerseColumns$History" "states" "I") (by decide +kernel)) (fun _ h9 => h9) rfl dX2_restore_1 ?_
    refine lv_iconst (v := (1 : Int32)) hx hb dX2_restore_4 (by decide) ?_
    refine lv_icmp_lt (tgt := 16) hx hb dX2_restore_5 (by decide) (fun g => absurd g (by decide)) (fun g => ?_)
    refine lv_aload_n hx hb dX2_restore_8 rfl (lv_at hl 0 rfl) ?_
    refine va_get (D := D) (ci := 2) (v := .int (2 : Int32)) (C := RX2) (T := TX2) (N := 2) hx hb hts huX2 hown hK hP 0 rfl rfl 1 (by decide) (hts (.fieldLink RX2 18 "VerseColumns$History" "states" "I") (by decide +kernel)) (fun _ h9 => h9) rfl dX2_restore_9 ?_
    refine lv_iconst (v := (5 : Int32)) hx hb dX2_restore_12 (by decide) ?_
    refine lv_icmp_le (tgt := 17) hx hb dX2_restore_13 (by decide) (fun g => ?_) (fun g => absurd (by decide) g)
    refine lv_aload_n hx hb dX2_restore_17 rfl (lv_at hl 0 rfl) ?_
    refine va_get (D := D) (ci := 2) (v := .ref aH.2.1) (C := RX2) (T := TX2) (N := 2) hx hb hts huX2 hown hK hP 0 rfl rfl 0 (by decide) (hts (.fieldLink RX2 11 "VerseColumns$History" "rows" "[LVerseColumns$State;") (by decide +kernel)) (fun _ h9 => h9) rfl dX2_restore_18 ?_
    refine lv_aload_n hx hb dX2_restore_21 rfl (lv_at hl 0 rfl) ?_
    refine va_get (D := D) (ci := 2) (v := .int (2 : Int32)) (C := RX2) (T := TX2) (N := 2) hx hb hts huX2 hown hK hP 0 rfl rfl 1 (by decide) (hts (.fieldLink RX2 18 "VerseColumns$History" "states" "I") (by decide +kernel)) (fun _ h9 => h9) rfl dX2_restore_22 ?_
    refine lv_iconst (v := (1 : Int32)) hx hb dX2_restore_25 (by decide) ?_
    refine lv_isub hx hb dX2_restore_26 ?_
    rw [show ((2 : Int32) - (1 : Int32)) = (1 : Int32) from rfl]
    refine va_aldq hx hb hK hP 1 2 rfl rfl (kin (i := (1 : Int32)) (n := 5) (by decide)) dX2_restore_27 ?_
    rw [kc1]
    rw [show va_rf ((hRo aH 0) 1) = .ref aH.2.2.2.1.1 from rfl]
    refine lv_astore_n (lv' := [(2, .ref aH.2.2.2.1.1), (0, .ref aH.1), (1, .ref aS)]) hx hb dX2_restore_28 rfl hl (by decide) rfl (fun ls hl => ?_)
    refine lv_aload_n hx hb dX2_restore_29 rfl (lv_at hl 0 rfl) ?_
    refine lv_ifnull hx hb dX2_restore_30 ?_
    refine lv_aload_n hx hb dX2_restore_33 rfl (lv_at hl 2 rfl) ?_
    refine lv_aload_n hx hb dX2_restore_34 rfl (lv_at hl 0 rfl) ?_
    refine kcvw (ws' := (wHF cI cS aH (2 : Int32) (hRo aH 0) vH2 vH3 vH4 vH5 vH6 ++ (wSC aS aL.1 aR.1 aM.1 ++ (wBK cI aL vH3.1.1 vH3.1.2.1 vH3.1.2.2.1 vH3.1.2.2.2 ++ (wBK cI aR vH3.2.1.1 vH3.2.1.2.1 vH3.2.1.2.2.1 vH3.2.1.2.2.2 ++ wMP cI aM vH3.2.2.1 vH3.2.2.2.1 vH3.2.2.2.2))))) [62, 63, 64, 65, 66, 67, 68, 69, 70, 71, 72, 73, 14, 15, 16, 17, 18, 19, 20, 21, 22, 23, 24, 25] (va_runV (As := [.ref aH.2.2.2.1.1]) (rest := []) ⟨hx, hb, hml, hown, hts⟩ (kX7_copyFrom l D cI cC cS aS aL vL0 vL1 vL2 vL3 aR vR0 vR1 vR2 vR3 aM vM0 vM1 vM2 aH.2.2.2.1.1 aH.2.2.2.1.2.1 vH3.1.1 vH3.1.2.1 vH3.1.2.2.1 vH3.1.2.2.2 aH.2.2.2.1.2.2.1 vH3.2.1.1 vH3.2.1.2.1 vH3.2.1.2.2.1 vH3.2.1.2.2.2 aH.2.2.2.1.2.2.2 vH3.2.2.1 vH3.2.2.2.1 vH3.2.2.2.2 s.heap.size (q := (vH3.1.1, vH3.1.2.1, vH3.1.2.2.1, vH3.1.2.2.2, vH3.2.1.1, vH3.2.1.2.1, vH3.2.1.2.2.1, vH3.2.1.2.2.2, vH3.2.2.1, vH3.2.2.2.1, vH3.2.2.2.2)) rfl) (cwV 1 hts gX2_restore_X7_copyFrom rfl rfl rfl (by decide +kernel) ⟨Nat.le_of_ble_eq_true rfl, Nat.le_of_ble_eq_true rfl⟩) (kpreV hK hN hP hD [62, 63, 64, 65, 66, 67, 68, 69, 70, 71, 72, 73, 14, 15, 16, 17, 18, 19, 20, 21, 22, 23, 24, 25] rfl (by decide +kernel) 7 rfl rfl) rfl rfl hl.1 rfl (lv_room (Nat.le_of_ble_eq_true rfl)) dX2_restore_35 ⟨Nat.le_refl _, Nat.le_refl _⟩) hP hD hS hA rfl (by decide +kernel) rfl [0, 0, 0, 0, 0, 0, 0, 0, 0, 0, 0, 0, 0, 0, 13, 14, 15, 16, 17, 18, 19, 20, 21, 22, 23, 24, 0, 0, 0, 0, 0, 0, 0, 0, 0, 0, 0, 0, 0, 0, 0, 0, 0, 0, 0, 0, 0, 0, 0, 0, 0, 0, 0, 0, 0, 0, 0, 0, 0, 0, 0, 0, 1, 2, 3, 4, 5, 6, 7, 8, 9, 10, 11, 12] (by decide +kernel) rfl (fun H locs hP hD hS => ?_)
    refine lv_aload_n hx hb dX2_restore_38 rfl (lv_at hl 1 rfl) ?_
    refine lv_dup hx hb dX2_restore_39 rfl ?_
    refine va_get (D := D) (ci := 2) (v := .int (2 : Int32)) (C := RX2) (T := TX2) (N := 2) hx hb hts huX2 hown hK hP 0 rfl rfl 1 (by decide) (hts (.fieldLink RX2 18 "VerseColumns$History" "states" "I") (by decide +kernel)) (fun _ h9 => h9) rfl dX2_restore_40 ?_
    refine lv_iconst (v := (1 : Int32)) hx hb dX2_restore_43 (by decide) ?_
    refine lv_isub hx hb dX2_restore_44 ?_
    rw [show ((2 : Int32) - (1 : Int32)) = (1 : Int32) from rfl]
    refine va_put (D := D) (ci := 2) (v := .int (1 : Int32)) (ty := .int) (C := RX2) (T := TX2) (N := 2) hx hb hts huX2 tyX2 tyX2_ok nmX2 hown hK hP hD hS 0 rfl rfl 1 (by decide) (hts (.fieldLink RX2 18 "VerseColumns$History" "states" "I") (by decide +kernel)) (fun _ h9 => h9) rfl (by decide +kernel) rfl rfl (Nat.le_of_ble_eq_true rfl) dX2_restore_45 (fun H locs hP hD hS => ?_)
    have hP : va_P D vwCl (wHF cI cS aH (1 : Int32) (hRo aH 0) vH2 vH3 vH4 vH5 vH6 ++ (wSC aS aL.1 aR.1 aM.1 ++ (wBK cI aL vH3.1.1 vH3.1.2.1 vH3.1.2.2.1 vH3.1.2.2.2 ++ (wBK cI aR vH3.2.1.1 vH3.2.1.2.1 vH3.2.1.2.2.1 vH3.2.1.2.2.2 ++ wMP cI aM vH3.2.2.1 vH3.2.2.2.1 vH3.2.2.2.2)))) H := hP
    have hD : va_D A (wHF cI cS aH (1 : Int32) (hRo aH 0) vH2 vH3 vH4 vH5 vH6 ++ (wSC aS aL.1 aR.1 aM.1 ++ (wBK cI aL vH3.1.1 vH3.1.2.1 vH3.1.2.2.1 vH3.1.2.2.2 ++ (wBK cI aR vH3.2.1.1 vH3.2.1.2.1 vH3.2.1.2.2.1 vH3.2.1.2.2.2 ++ wMP cI aM vH3.2.2.1 vH3.2.2.2.1 vH3.2.2.2.2)))) := hD
    obtain rfl := Option.some.inj h
    exact W.vret hx hb hr (fun t ht hW => ⟨⟨(), rfl, trivial, by rw [ht]; exact hP, hD⟩, hS.F ht⟩) hS.2.2 dX2_restore_48
  rw [if_neg g2] at h
  by_cases g3 : vH0 = 3
  · rw [if_pos g3] at h
    subst g3
    refine lv_aload_n hx hb dX2_restore_0 rfl (lv_at hl 0 rfl) ?_
    refine va_get (D := D) (ci := 2) (v := .int (3 : Int32)) (C := RX2) (T := TX2) (N := 2) hx hb hts huX2 hown hK hP 0 rfl rfl 1 (by decide) (hts (.fieldLink RX2 18 "VerseColumns$History" "states" "I") (by decide +kernel)) (fun _ h9 => h9) rfl dX2_restore_1 ?_
    refine lv_iconst (v := (1 : Int32)) hx hb dX2_restore_4 (by decide) ?_
    refine lv_icmp_lt (tgt := 16) hx hb dX2_restore_5 (by decide) (fun g => absurd g (by decide)) (fun g => ?_)
    refine lv_aload_n hx hb dX2_restore_8 rfl (lv_at hl 0 rfl) ?_
    refine va_get (D := D) (ci := 2) (v := .int (3 : Int32)) (C := RX2) (T := TX2) (N := 2) hx hb hts huX2 hown hK hP 0 rfl rfl 1 (by decide) (hts (.fieldLink RX2 18 "VerseColumns$History" "states" "I") (by decide +kernel)) (fun _ h9 => h9) rfl dX2_restore_9 ?_
    refine lv_iconst (v := (5 : Int32)) hx hb dX2_restore_12 (by decide) ?_
    refine lv_icmp_le (tgt := 17) hx hb dX2_restore_13 (by decide) (fun g => ?_) (fun g => absurd (by decide) g)
    refine lv_aload_n hx hb dX2_restore_17 rfl (lv_at hl 0 rfl) ?_
    refine va_get (D := D) (ci := 2) (v := .ref aH.2.1) (C := RX2) (T := TX2) (N := 2) hx hb hts huX2 hown hK hP 0 rfl rfl 0 (by decide) (hts (.fieldLink RX2 11 "VerseColumns$History" "rows" "[LVerseColumns$State;") (by decide +kernel)) (fun _ h9 => h9) rfl dX2_restore_18 ?_
    refine lv_aload_n hx hb dX2_restore_21 rfl (lv_at hl 0 rfl) ?_
    refine va_get (D := D) (ci := 2) (v := .int (3 : Int32)) (C := RX2) (T := TX2) (N := 2) hx hb hts huX2 hown hK hP 0 rfl rfl 1 (by decide) (hts (.fieldLink RX2 18 "VerseColumns$History" "states" "I") (by decide +kernel)) (fun _ h9 => h9) rfl dX2_restore_22 ?_
    refine lv_iconst (v := (1 : Int32)) hx hb dX2_restore_25 (by decide) ?_
    refine lv_isub hx hb dX2_restore_26 ?_
    rw [show ((3 : Int32) - (1 : Int32)) = (2 : Int32) from rfl]
    refine va_aldq hx hb hK hP 1 2 rfl rfl (kin (i := (2 : Int32)) (n := 5) (by decide)) dX2_restore_27 ?_
    rw [kc2]
    rw [show va_rf ((hRo aH 0) 2) = .ref aH.2.2.2.2.1.1 from rfl]
    refine lv_astore_n (lv' := [(2, .ref aH.2.2.2.2.1.1), (0, .ref aH.1), (1, .ref aS)]) hx hb dX2_restore_28 rfl hl (by decide) rfl (fun ls hl => ?_)
    refine lv_aload_n hx hb dX2_restore_29 rfl (lv_at hl 0 rfl) ?_
    refine lv_ifnull hx hb dX2_restore_30 ?_
    refine lv_aload_n hx hb dX2_restore_33 rfl (lv_at hl 2 rfl) ?_
    refine lv_aload_n hx hb dX2_restore_34 rfl (lv_at hl 0 rfl) ?_
    refine kcvw (ws' := (wHF cI cS aH (3 : Int32) (hRo aH 0) vH2 vH3 vH4 vH5 vH6 ++ (wSC aS aL.1 aR.1 aM.1 ++ (wBK cI aL vH4.1.1 vH4.1.2.1 vH4.1.2.2.1 vH4.1.2.2.2 ++ (wBK cI aR vH4.2.1.1 vH4.2.1.2.1 vH4.2.1.2.2.1 vH4.2.1.2.2.2 ++ wMP cI aM vH4.2.2.1 vH4.2.2.2.1 vH4.2.2.2.2))))) [62, 63, 64, 65, 66, 67, 68, 69, 70, 71, 72, 73, 26, 27, 28, 29, 30, 31, 32, 33, 34, 35, 36, 37] (va_runV (As := [.ref aH.2.2.2.2.1.1]) (rest := []) ⟨hx, hb, hml, hown, hts⟩ (kX7_copyFrom l D cI cC cS aS aL vL0 vL1 vL2 vL3 aR vR0 vR1 vR2 vR3 aM vM0 vM1 vM2 aH.2.2.2.2.1.1 aH.2.2.2.2.1.2.1 vH4.1.1 vH4.1.2.1 vH4.1.2.2.1 vH4.1.2.2.2 aH.2.2.2.2.1.2.2.1 vH4.2.1.1 vH4.2.1.2.1 vH4.2.1.2.2.1 vH4.2.1.2.2.2 aH.2.2.2.2.1.2.2.2 vH4.2.2.1 vH4.2.2.2.1 vH4.2.2.2.2 s.heap.size (q := (vH4.1.1, vH4.1.2.1, vH4.1.2.2.1, vH4.1.2.2.2, vH4.2.1.1, vH4.2.1.2.1, vH4.2.1.2.2.1, vH4.2.1.2.2.2, vH4.2.2.1, vH4.2.2.2.1, vH4.2.2.2.2)) rfl) (cwV 1 hts gX2_restore_X7_copyFrom rfl rfl rfl (by decide +kernel) ⟨Nat.le_of_ble_eq_true rfl, Nat.le_of_ble_eq_true rfl⟩) (kpreV hK hN hP hD [62, 63, 64, 65, 66, 67, 68, 69, 70, 71, 72, 73, 26, 27, 28, 29, 30, 31, 32, 33, 34, 35, 36, 37] rfl (by decide +kernel) 7 rfl rfl) rfl rfl hl.1 rfl (lv_room (Nat.le_of_ble_eq_true rfl)) dX2_restore_35 ⟨Nat.le_refl _, Nat.le_refl _⟩) hP hD hS hA rfl (by decide +kernel) rfl [0, 0, 0, 0, 0, 0, 0, 0, 0, 0, 0, 0, 0, 0, 0, 0, 0, 0, 0, 0, 0, 0, 0, 0, 0, 0, 13, 14, 15, 16, 17, 18, 19, 20, 21, 22, 23, 24, 0, 0, 0, 0, 0, 0, 0, 0, 0, 0, 0, 0, 0, 0, 0, 0, 0, 0, 0, 0, 0, 0, 0, 0, 1, 2, 3, 4, 5, 6, 7, 8, 9, 10, 11, 12] (by decide +kernel) rfl (fun H locs hP hD hS => ?_)
    refine lv_aload_n hx hb dX2_restore_38 rfl (lv_at hl 1 rfl) ?_
    refine lv_dup hx hb dX2_restore_39 rfl ?_
    refine va_get (D := D) (ci := 2) (v := .int (3 : Int32)) (C := RX2) (T := TX2) (N := 2) hx hb hts huX2 hown hK hP 0 rfl rfl 1 (by decide) (hts (.fieldLink RX2 18 "VerseColumns$History" "states" "I") (by decide +kernel)) (fun _ h9 => h9) rfl dX2_restore_40 ?_
    refine lv_iconst (v := (1 : Int32)) hx hb dX2_restore_43 (by decide) ?_
    refine lv_isub hx hb dX2_restore_44 ?_
    rw [show ((3 : Int32) - (1 : Int32)) = (2 : Int32) from rfl]
    refine va_put (D := D) (ci := 2) (v := .int (2 : Int32)) (ty := .int) (C := RX2) (T := TX2) (N := 2) hx hb hts huX2 tyX2 tyX2_ok nmX2 hown hK hP hD hS 0 rfl rfl 1 (by decide) (hts (.fieldLink RX2 18 "VerseColumns$History" "states" "I") (by decide +kernel)) (fun _ h9 => h9) rfl (by decide +kernel) rfl rfl (Nat.le_of_ble_eq_true rfl) dX2_restore_45 (fun H locs hP hD hS => ?_)
    have hP : va_P D vwCl (wHF cI cS aH (2 : Int32) (hRo aH 0) vH2 vH3 vH4 vH5 vH6 ++ (wSC aS aL.1 aR.1 aM.1 ++ (wBK cI aL vH4.1.1 vH4.1.2.1 vH4.1.2.2.1 vH4.1.2.2.2 ++ (wBK cI aR vH4.2.1.1 vH4.2.1.2.1 vH4.2.1.2.2.1 vH4.2.1.2.2.2 ++ wMP cI aM vH4.2.2.1 vH4.2.2.2.1 vH4.2.2.2.2)))) H := hP
    have hD : va_D A (wHF cI cS aH (2 : Int32) (hRo aH 0) vH2 vH3 vH4 vH5 vH6 ++ (wSC aS aL.1 aR.1 aM.1 ++ (wBK cI aL vH4.1.1 vH4.1.2.1 vH4.1.2.2.1 vH4.1.2.2.2 ++ (wBK cI aR vH4.2.1.1 vH4.2.1.2.1 vH4.2.1.2.2.1 vH4.2.1.2.2.2 ++ wMP cI aM vH4.2.2.1 vH4.2.2.2.1 vH4.2.2.2.2)))) := hD
    obtain rfl := Option.some.inj h
    exact W.vret hx hb hr (fun t ht hW => ⟨⟨(), rfl, trivial, by rw [ht]; exact hP, hD⟩, hS.F ht⟩) hS.2.2 dX2_restore_48
  rw [if_neg g3] at h
  by_cases g4 : vH0 = 4
  · rw [if_pos g4] at h
    subst g4
    refine lv_aload_n hx hb dX2_restore_0 rfl (lv_at hl 0 rfl) ?_
    refine va_get (D := D) (ci := 2) (v := .int (4 : Int32)) (C := RX2) (T := TX2) (N := 2) hx hb hts huX2 hown hK hP 0 rfl rfl 1 (by decide) (hts (.fieldLink RX2 18 "VerseColumns$History" "states" "I") (by decide +kernel)) (fun _ h9 => h9) rfl dX2_restore_1 ?_
    refine lv_iconst (v := (1 : Int32)) hx hb dX2_restore_4 (by decide) ?_
    refine lv_icmp_lt (tgt := 16) hx hb dX2_restore_5 (by decide) (fun g => absurd g (by decide)) (fun g => ?_)
    refine lv_aload_n hx hb dX2_restore_8 rfl (lv_at hl 0 rfl) ?_
    refine va_get (D := D) (ci := 2) (v := .int (4 : Int32)) (C := RX2) (T := TX2) (N := 2) hx hb hts huX2 hown hK hP 0 rfl rfl 1 (by decide) (hts (.fieldLink RX2 18 "VerseColumns$History" "states" "I") (by decide +kernel)) (fun _ h9 => h9) rfl dX2_restore_9 ?_
    refine lv_iconst (v := (5 : Int32)) hx hb dX2_restore_12 (by decide) ?_
    refine lv_icmp_le (tgt := 17) hx hb dX2_restore_13 (by decide) (fun g => ?_) (fun g => absurd (by decide) g)
    refine lv_aload_n hx hb dX2_restore_17 rfl (lv_at hl 0 rfl) ?_
    refine va_get (D := D) (ci := 2) (v := .ref aH.2.1) (C := RX2) (T := TX2) (N := 2) hx hb hts huX2 hown hK hP 0 rfl rfl 0 (by decide) (hts (.fieldLink RX2 11 "VerseColumns$History" "rows" "[LVerseColumns$State;") (by decide +kernel)) (fun _ h9 => h9) rfl dX2_restore_18 ?_
    refine lv_aload_n hx hb dX2_restore_21 rfl (lv_at hl 0 rfl) ?_
    refine va_get (D := D) (ci := 2) (v := .int (4 : Int32)) (C := RX2) (T := TX2) (N := 2) hx hb hts huX2 hown hK hP 0 rfl rfl 1 (by decide) (hts (.fieldLink RX2 18 "VerseColumns$History" "states" "I") (by decide +kernel)) (fun _ h9 => h9) rfl dX2_restore_22 ?_
    refine lv_iconst (v := (1 : Int32)) hx hb dX2_restore_25 (by decide) ?_
    refine lv_isub hx hb dX2_restore_26 ?_
    rw [show ((4 : Int32) - (1 : Int32)) = (3 : Int32) from rfl]
    refine va_aldq hx hb hK hP 1 2 rfl rfl (kin (i := (3 : Int32)) (n := 5) (by decide)) dX2_restore_27 ?_
    rw [kc3]
    rw [show va_rf ((hRo aH 0) 3) = .ref aH.2.2.2.2.2.1.1 from rfl]
    refine lv_astore_n (lv' := [(2, .ref aH.2.2.2.2.2.1.1), (0, .ref aH.1), (1, .ref aS)]) hx hb dX2_restore_28 rfl hl (by decide) rfl (fun ls hl => ?_)
    refine lv_aload_n hx hb dX2_restore_29 rfl (lv_at hl 0 rfl) ?_
    refine lv_ifnull hx hb dX2_restore_30 ?_
    refine lv_aload_n hx hb dX2_restore_33 rfl (lv_at hl 2 rfl) ?_
    refine lv_aload_n hx hb dX2_restore_34 rfl (lv_at hl 0 rfl) ?_
    refine kcvw (ws' := (wHF cI cS aH (4 : Int32) (hRo aH 0) vH2 vH3 vH4 vH5 vH6 ++ (wSC aS aL.1 aR.1 aM.1 ++ (wBK cI aL vH5.1.1 vH5.1.2.1 vH5.1.2.2.1 vH5.1.2.2.2 ++ (wBK cI aR vH5.2.1.1 vH5.2.1.2.1 vH5.2.1.2.2.1 vH5.2.1.2.2.2 ++ wMP cI aM vH5.2.2.1 vH5.2.2.2.1 vH5.2.2.2.2))))) [62, 63, 64, 65, 66, 67, 68, 69, 70, 71, 72, 73, 38, 39, 40, 41, 42, 43, 44, 45, 46, 47, 48, 49] (va_runV (As := [.ref aH.2.2.2.2.2.1.1]) (rest := []) ⟨hx, hb, hml, hown, hts⟩ (kX7_copyFrom l D cI cC cS aS aL vL0 vL1 vL2 vL3 aR vR0 vR1 vR2 vR3 aM vM0 vM1 vM2 aH.2.2.2.2.2.1.1 aH.2.2.2.2.2.1.2.1 vH5.1.1 vH5.1.2.1 vH5.1.2.2.1 vH5.1.2.2.2 aH.2.2.2.2.2.1.2.2.1 vH5.2.1.1 vH5.2.1.2.1 vH5.2.1.2.2.1 vH5.2.1.2.2.2 aH.2.2.2.2.2.1.2.2.2 vH5.2.2.1 vH5.2.2.2.1 vH5.2.2.2.2 s.heap.size (q := (vH5.1.1, vH5.1.2.1, vH5.1.2.2.1, vH5.1.2.2.2, vH5.2.1.1, vH5.2.1.2.1, vH5.2.1.2.2.1, vH5.2.1.2.2.2, vH5.2.2.1, vH5.2.2.2.1, vH5.2.2.2.2)) rfl) (cwV 1 hts gX2_restore_X7_copyFrom rfl rfl rfl (by decide +kernel) ⟨Nat.le_of_ble_eq_true rfl, Nat.le_of_ble_eq_true rfl⟩) (kpreV hK hN hP hD [62, 63, 64, 65, 66, 67, 68, 69, 70, 71, 72, 73, 38, 39, 40, 41, 42, 43, 44, 45, 46, 47, 48, 49] rfl (by decide +kernel) 7 rfl rfl) rfl rfl hl.1 rfl (lv_room (Nat.le_of_ble_eq_true rfl)) dX2_restore_35 ⟨Nat.le_refl _, Nat.le_refl _⟩) hP hD hS hA rfl (by decide +kernel) rfl [0, 0, 0, 0, 0, 0, 0, 0, 0, 0, 0, 0, 0, 0, 0, 0, 0, 0, 0, 0, 0, 0, 0, 0, 0, 0, 0, 0, 0, 0, 0, 0, 0, 0, 0, 0, 0, 0, 13, 14, 15, 16, 17, 18, 19, 20, 21, 22, 23, 24, 0, 0, 0, 0, 0, 0, 0, 0, 0, 0, 0, 0, 1, 2, 3, 4, 5, 6, 7, 8, 9, 10, 11, 12] (by decide +kernel) rfl (fun H locs hP hD hS => ?_)
    refine lv_aload_n hx hb dX2_restore_38 rfl (lv_at hl 1 rfl) ?_
    refine lv_dup hx hb dX2_restore_39 rfl ?_
    refine va_get (D := D) (ci := 2) (v := .int (4 : Int32)) (C := RX2) (T := TX2) (N := 2) hx hb hts huX2 hown hK hP 0 rfl rfl 1 (by decide) (hts (.fieldLink RX2 18 "VerseColumns$History" "states" "I") (by decide +kernel)) (fun _ h9 => h9) rfl dX2_restore_40 ?_
    refine lv_iconst (v := (1 : Int32)) hx hb dX2_restore_43 (by decide) ?_
    refine lv_isub hx hb dX2_restore_44 ?_
    rw [show ((4 : Int32) - (1 : Int32)) = (3 : Int32) from rfl]
    refine va_put (D := D) (ci := 2) (v := .int (3 : Int32)) (ty := .int) (C := RX2) (T := TX2) (N := 2) hx hb hts huX2 tyX2 tyX2_ok nmX2 hown hK hP hD hS 0 rfl rfl 1 (by decide) (hts (.fieldLink RX2 18 "VerseColumns$History" "states" "I") (by decide +kernel)) (fun _ h9 => h9) rfl (by decide +kernel) rfl rfl (Nat.le_of_ble_eq_true rfl) dX2_restore_45 (fun H locs hP hD hS => ?_)
    have hP : va_P D vwCl (wHF cI cS aH (3 : Int32) (hRo aH 0) vH2 vH3 vH4 vH5 vH6 ++ (wSC aS aL.1 aR.1 aM.1 ++ (wBK cI aL vH5.1.1 vH5.1.2.1 vH5.1.2.2.1 vH5.1.2.2.2 ++ (wBK cI aR vH5.2.1.1 vH5.2.1.2.1 vH5.2.1.2.2.1 vH5.2.1.2.2.2 ++ wMP cI aM vH5.2.2.1 vH5.2.2.2.1 vH5.2.2.2.2)))) H := hP
    have hD : va_D A (wHF cI cS aH (3 : Int32) (hRo aH 0) vH2 vH3 vH4 vH5 vH6 ++ (wSC aS aL.1 aR.1 aM.1 ++ (wBK cI aL vH5.1.1 vH5.1.2.1 vH5.1.2.2.1 vH5.1.2.2.2 ++ (wBK cI aR vH5.2.1.1 vH5.2.1.2.1 vH5.2.1.2.2.1 vH5.2.1.2.2.2 ++ wMP cI aM vH5.2.2.1 vH5.2.2.2.1 vH5.2.2.2.2)))) := hD
    obtain rfl := Option.some.inj h
    exact W.vret hx hb hr (fun t ht hW => ⟨⟨(), rfl, trivial, by rw [ht]; exact hP, hD⟩, hS.F ht⟩) hS.2.2 dX2_restore_48
  rw [if_neg g4] at h
  by_cases g5 : vH0 = 5
  · rw [if_pos g5] at h
    subst g5
    refine lv_aload_n hx hb dX2_restore_0 rfl (lv_at hl 0 rfl) ?_
    refine va_get (D := D) (ci := 2) (v := .int (5 : Int32)) (C := RX2) (T := TX2) (N := 2) hx hb hts huX2 hown hK hP 0 rfl rfl 1 (by decide) (hts (.fieldLink RX2 18 "VerseColumns$History" "states" "I") (by decide +kernel)) (fun _ h9 => h9) rfl dX2_restore_1 ?_
    refine lv_iconst (v := (1 : Int32)) hx hb dX2_restore_4 (by decide) ?_
    refine lv_icmp_lt (tgt := 16) hx hb dX2_restore_5 (by decide) (fun g => absurd g (by decide)) (fun g => ?_)
    refine lv_aload_n hx hb dX2_restore_8 rfl (lv_at hl 0 rfl) ?_
    refine va_get (D := D) (ci := 2) (v := .int (5 : Int32)) (C := RX2) (T := TX2) (N := 2) hx hb hts huX2 hown hK hP 0 rfl rfl 1 (by decide) (hts (.fieldLink RX2 18 "VerseColumns$History" "states" "I") (by decide +kernel)) (fun _ h9 => h9) rfl dX2_restore_9 ?_
    refine lv_iconst (v := (5 : Int32)) hx hb dX2_restore_12 (by decide) ?_
    refine lv_icmp_le (tgt := 17) hx hb dX2_restore_13 (by decide) (fun g => ?_) (fun g => absurd (by decide) g)
    refine lv_aload_n hx hb dX2_restore_17 rfl (lv_at hl 0 rfl) ?_
    refine va_get (D := D) (ci := 2) (v := .ref aH.2.1) (C := RX2) (T := TX2) (N := 2) hx hb hts huX2 hown hK hP 0 rfl rfl 0 (by decide) (hts (.fieldLink RX2 11 "VerseColumns$History" "rows" "[LVerseColumns$State;") (by decide +kernel)) (fun _ h9 => h9) rfl dX2_restore_18 ?_
    refine lv_aload_n hx hb dX2_restore_21 rfl (lv_at hl 0 rfl) ?_
    refine va_get (D := D) (ci := 2) (v := .int (5 : Int32)) (C := RX2) (T := TX2) (N := 2) hx hb hts huX2 hown hK hP 0 rfl rfl 1 (by decide) (hts (.fieldLink RX2 18 "VerseColumns$History" "states" "I") (by decide +kernel)) (fun _ h9 => h9) rfl dX2_restore_22 ?_
    refine lv_iconst (v := (1 : Int32)) hx hb dX2_restore_25 (by decide) ?_
    refine lv_isub hx hb dX2_restore_26 ?_
    rw [show ((5 : Int32) - (1 : Int32)) = (4 : Int32) from rfl]
    refine va_aldq hx hb hK hP 1 2 rfl rfl (kin (i := (4 : Int32)) (n := 5) (by decide)) dX2_restore_27 ?_
    rw [kc4]
    rw [show va_rf ((hRo aH 0) 4) = .ref aH.2.2.2.2.2.2.1 from rfl]
    refine lv_astore_n (lv' := [(2, .ref aH.2.2.2.2.2.2.1), (0, .ref aH.1), (1, .ref aS)]) hx hb dX2_restore_28 rfl hl (by decide) rfl (fun ls hl => ?_)
    refine lv_aload_n hx hb dX2_restore_29 rfl (lv_at hl 0 rfl) ?_
    refine lv_ifnull hx hb dX2_restore_30 ?_
    refine lv_aload_n hx hb dX2_restore_33 rfl (lv_at hl 2 rfl) ?_
    refine lv_aload_n hx hb dX2_restore_34 rfl (lv_at hl 0 rfl) ?_
    refine kcvw (ws' := (wHF cI cS aH (5 : Int32) (hRo aH 0) vH2 vH3 vH4 vH5 vH6 ++ (wSC aS aL.1 aR.1 aM.1 ++ (wBK cI aL vH6.1.1 vH6.1.2.1 vH6.1.2.2.1 vH6.1.2.2.2 ++ (wBK cI aR vH6.2.1.1 vH6.2.1.2.1 vH6.2.1.2.2.1 vH6.2.1.2.2.2 ++ wMP cI aM vH6.2.2.1 vH6.2.2.2.1 vH6.2.2.2.2))))) [62, 63, 64, 65, 66, 67, 68, 69, 70, 71, 72, 73, 50, 51, 52, 53, 54, 55, 56, 57, 58, 59, 60, 61] (va_runV (As := [.ref aH.2.2.2.2.2.2.1]) (rest := []) ⟨hx, hb, hml, hown, hts⟩ (kX7_copyFrom l D cI cC cS aS aL vL0 vL1 vL2 vL3 aR vR0 vR1 vR2 vR3 aM vM0 vM1 vM2 aH.2.2.2.2.2.2.1 aH.2.2.2.2.2.2.2.1 vH6.1.1 vH6.1.2.1 vH6.1.2.2.1 vH6.1.2.2.2 aH.2.2.2.2.2.2.2.2.1 vH6.2.1.1 vH6.2.1.2.1 vH6.2.1.2.2.1 vH6.2.1.2.2.2 aH.2.2.2.2.2.2.2.2.2 vH6.2.2.1 vH6.2.2.2.1 vH6.2.2.2.2 s.heap.size (q := (vH6.1.1, vH6.1.2.1, vH6.1.2.2.1, vH6.1.2.2.2, vH6.2.1.1, vH6.2.1.2.1, vH6.2.1.2.2.1, vH6.2.1.2.2.2, vH6.2.2.1, vH6.2.2.2.1, vH6.2.2.2.2)) rfl) (cwV 1 hts gX2_restore_X7_copyFrom rfl rfl rfl (by decide +kernel) ⟨Nat.le_of_ble_eq_true rfl, Nat.le_of_ble_eq_true rfl⟩) (kpreV hK hN hP hD [62, 63, 64, 65, 66, 67, 68, 69, 70, 71, 72, 73, 50, 51, 52, 53, 54, 55, 56, 57, 58, 59, 60, 61] rfl (by decide +kernel) 7 rfl rfl) rfl rfl hl.1 rfl (lv_room (Nat.le_of_ble_eq_true rfl)) dX2_restore_35 ⟨Nat.le_refl _, Nat.le_refl _⟩) hP hD hS hA rfl (by decide +kernel) rfl [0, 0, 0, 0, 0, 0, 0, 0, 0, 0, 0, 0, 0, 0, 0, 0, 0, 0, 0, 0, 0, 0, 0, 0, 0, 0, 0, 0, 0, 0, 0, 0, 0, 0, 0, 0, 0, 0, 0, 0, 0, 0, 0, 0, 0, 0, 0, 0, 0, 0, 13, 14, 15, 16, 17, 18, 19, 20, 21, 22, 23, 24, 1, 2, 3, 4, 5, 6, 7, 8, 9, 10, 11, 12] (by decide +kernel) rfl (fun H locs hP hD hS => ?_)
    refine lv_aload_n hx hb dX2_restore_38 rfl (lv_at hl 1 rfl) ?_
    refine lv_dup hx hb dX2_restore_39 rfl ?_
    refine va_get (D := D) (ci := 2) (v := .int (5 : Int32)) (C := RX2) (T := TX2) (N := 2) hx hb hts huX2 hown hK hP 0 rfl rfl 1 (by decide) (hts (.fieldLink RX2 18 "VerseColumns$History" "states" "I") (by decide +kernel)) (fun _ h9 => h9) rfl dX2_restore_40 ?_
    refine lv_iconst (v := (1 : Int32)) hx hb dX2_restore_43 (by decide) ?_
    refine lv_isub hx hb dX2_restore_44 ?_
    rw [show ((5 : Int32) - (1 : Int32)) = (4 : Int32) from rfl]
    refine va_put (D := D) (ci := 2) (v := .int (4 : Int32)) (ty := .int) (C := RX2) (T := TX2) (N := 2) hx hb hts huX2 tyX2 tyX2_ok nmX2 hown hK hP hD hS 0 rfl rfl 1 (by decide) (hts (.fieldLink RX2 18 "VerseColumns$History" "states" "I") (by decide +kernel)) (fun _ h9 => h9) rfl (by decide +kernel) rfl rfl (Nat.le_of_ble_eq_true rfl) dX2_restore_45 (fun H locs hP hD hS => ?_)
    have hP : va_P D vwCl (wHF cI cS aH (4 : Int32) (hRo aH 0) vH2 vH3 vH4 vH5 vH6 ++ (wSC aS aL.1 aR.1 aM.1 ++ (wBK cI aL vH6.1.1 vH6.1.2.1 vH6.1.2.2.1 vH6.1.2.2.2 ++ (wBK cI aR vH6.2.1.1 vH6.2.1.2.1 vH6.2.1.2.2.1 vH6.2.1.2.2.2 ++ wMP cI aM vH6.2.2.1 vH6.2.2.2.1 vH6.2.2.2.2)))) H := hP
    have hD : va_D A (wHF cI cS aH (4 : Int32) (hRo aH 0) vH2 vH3 vH4 vH5 vH6 ++ (wSC aS aL.1 aR.1 aM.1 ++ (wBK cI aL vH6.1.1 vH6.1.2.1 vH6.1.2.2.1 vH6.1.2.2.2 ++ (wBK cI aR vH6.2.1.1 vH6.2.1.2.1 vH6.2.1.2.2.1 vH6.2.1.2.2.2 ++ wMP cI aM vH6.2.2.1 vH6.2.2.2.1 vH6.2.2.2.2)))) := hD
    obtain rfl := Option.some.inj h
    exact W.vret hx hb hr (fun t ht hW => ⟨⟨(), rfl, trivial, by rw [ht]; exact hP, hD⟩, hS.F ht⟩) hS.2.2 dX2_restore_48
  rw [if_neg g5] at h
  cases h
