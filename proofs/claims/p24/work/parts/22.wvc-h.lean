-- walks: vc (printed by wip/whole/gen)
set_option maxHeartbeats 8000000 in
set_option maxRecDepth 100000 in
theorem kX9_count (l : Launch) (D : va_G) (cI cC cS : ClassId) (aV : Nat) (xV2 : Nat) (xV3 : Nat) (xV4 : Nat) (xV5 : Nat) (aS : Nat) (aL : Nat × Nat × Nat × Nat) (vL0 : (Nat → Int32)) (vL1 : (Nat → Int32)) (vL2 : (Nat → Int32)) (vL3 : Int32) (aR : Nat × Nat × Nat × Nat) (vR0 : (Nat → Int32)) (vR1 : (Nat → Int32)) (vR2 : (Nat → Int32)) (vR3 : Int32) (aM : Nat × Nat × Nat) (vM0 : (Nat → Int32)) (vM1 : (Nat → Int32)) (vM2 : Int32) (aH : aHI) (vH0 : Int32) (vH2 : vST) (vH3 : vST) (vH4 : vST) (vH5 : vST) (vH6 : vST) (aY : Nat × Nat × Nat × Nat × Nat) (vY0 : Int32) (vY1 : Int32) (vY2 : Int32) (vY3 : Int32) (vY4 : (Nat → Int32)) (vY5 : (Nat → Int32)) (vY6 : (Nat → Int32)) (vY7 : (Nat → Int32)) (vY8 : Int32) (vY9 : Int32) (vY10 : Int32) (i1 : Int32) (sz : Nat) {q : Int32 × (Nat → Int32) × (Nat → Int32) × (Nat → Int32) × (Nat → Int32) × Int32 × Int32 × Int32} (h : pX9_count vL0 vL1 vL2 vL3 vR0 vR1 vR2 vR3 vM0 vM1 vM2 vH0 vY0 vY1 vY2 vY3 vY4 vY5 vY6 vY7 vY8 vY9 vY10 i1 = some q) : kMi l yX9_count wsX9_count ({ frames := 6, cells := 0, slots := 0, locals := 138 } : Room) D (kTy cI cC cS) [.ref aV, .int i1] (wVC aV aS aH.1 xV2 xV3 xV4 xV5 aY.1 ++ (wSC aS aL.1 aR.1 aM.1 ++ (wBK cI aL vL0 vL1 vL2 vL3 ++ (wBK cI aR vR0 vR1 vR2 vR3 ++ (wMP cI aM vM0 vM1 vM2 ++ (wHI cI cS aH vH0 0 vH2 vH3 vH4 vH5 vH6 ++ wLY cI aY vY0 vY1 vY2 vY3 vY4 vY5 vY6 vY7 vY8 vY9 vY10)))))) sz q.1 (wVC aV aS aH.1 xV2 xV3 xV4 xV5 aY.1 ++ (wSC aS aL.1 aR.1 aM.1 ++ (wBK cI aL vL0 vL1 vL2 vL3 ++ (wBK cI aR vR0 vR1 vR2 vR3 ++ (wMP cI aM vM0 vM1 vM2 ++ (wHI cI cS aH vH0 0 vH2 vH3 vH4 vH5 vH6 ++ wLY cI aY vY0 vY1 vY2 vY3 q.2.1 q.2.2.1 q.2.2.2.1 q.2.2.2.2.1 q.2.2.2.2.2.1 q.2.2.2.2.2.2.1 q.2.2.2.2.2.2.2)))))) := by
  refine Met.ofW (cc := cX9_count) (maxL := 2) (ret := (some .int)) (by decide) rfl ?_
  intro p e s m args below meth c s₁ B hml hv
  obtain ⟨rfl, hsz, hP, hK, hD0, hN⟩ := hv
  have hx := B.exec
  have hb := B.bytes
  have hr := B.returns
  have hts := atoms_spec (ws := wsX9_count) B.pre
  have hown : s.vm.findClass RX9 = some m.cls := findClass_of_methodNamed B.named
  have hlocks := B.notSynchronized
  subst hsz
  have hD := hD0.self (sz := s.heap.size)
  generalize hAe : va_A (wVC aV aS aH.1 xV2 xV3 xV4 xV5 aY.1 ++ (wSC aS aL.1 aR.1 aM.1 ++ (wBK cI aL vL0 vL1 vL2 vL3 ++ (wBK cI aR vR0 vR1 vR2 vR3 ++ (wMP cI aM vM0 vM1 vM2 ++ (wHI cI cS aH vH0 0 vH2 vH3 vH4 vH5 vH6 ++ wLY cI aY vY0 vY1 vY2 vY3 vY4 vY5 vY6 vY7 vY8 vY9 vY10)))))) s.heap.size = A at hD ⊢
  have hA : ∀ q : Nat, s.heap.size ≤ q → A q := fun q h => by rw [← hAe]; exact Or.inr h
  have hS : va_S A s.heap s.heap [] := va_S.rf
  have huX0 : ∀ w ∈ u_ws RX0 TX0 4, w ∈ wsX9_count := by decide +kernel
  have huX1 : ∀ w ∈ u_ws RX1 TX1 3, w ∈ wsX9_count := by decide +kernel
  have huX2 : ∀ w ∈ u_ws RX2 TX2 2, w ∈ wsX9_count := by decide +kernel
  have huX3 : ∀ w ∈ u_ws RX3 TX3 11, w ∈ wsX9_count := by decide +kernel
  have huX7 : ∀ w ∈ u_ws RX7 TX7 3, w ∈ wsX9_count := by decide +kernel
  have huX9 : ∀ w ∈ u_ws RX9 TX9 7, w ∈ wsX9_count := by decide +kernel
  have hl := lv_entry ([.ref aV, .int i1]) (n := 2) (Nat.le_of_ble_eq_true rfl)
  rw [lg_entry_eq]
  generalize (lg_sl ([.ref aV, .int i1]) ++ List.replicate (2 - (lg_sl ([.ref aV, .int i1])).length) Slot.unset).toArray = ls at hl ⊢
  have hl : lv_has ls 2 [(0, .ref aV), (1, .int i1)] := hl
  unfold pX9_count at h
  refine lv_iload_n hx hb dX9_count_0 rfl (lv_at hl 1 rfl) ?_
  refine lv_iconst (v := (0 : Int32)) hx hb dX9_count_1 (by decide) ?_
  refine lv_bipush (v := (11 : Int32)) hx hb dX9_count_2 (by decide) ?_
  obtain ⟨q2, h1, h⟩ := Option.bind_eq_some_iff.mp h
  refine kcir [] (va_runS (As := [.int i1, .int (0 : Int32), .int (11 : Int32)]) (rest := []) ⟨hx, hb, hml, hown, hts⟩ (kX9_isWithin l D cI cC cS i1 (0 : Int32) (11 : Int32) s.heap.size h1) (cwS 3 hts gX9_count_X9_isWithin rfl rfl rfl (by decide +kernel) ⟨Nat.le_of_ble_eq_true rfl, Nat.le_of_ble_eq_true rfl⟩) (kpre hK hN hP hD [] rfl (by decide)) rfl rfl hl.1 rfl (lv_room (Nat.le_of_ble_eq_true rfl)) dX9_count_4 ⟨Nat.le_refl _, Nat.le_refl _⟩) hP hD hS hA rfl (fun H locs hP hS => ?_)
  refine lv_if_ne (tgt := 13) hx hb dX9_count_7 (by decide) (fun g => ?_) (fun g => ?_)
  · rw [if_neg g] at h
    refine lv_iload_n hx hb dX9_count_13 rfl (lv_at hl 1 rfl) ?_
    by_cases g0 : i1 = 0
    · rw [if_pos g0] at h
      have e : i1.toInt = 0 := by rw [g0]; rfl
      refine lv_tableIn hx hb dX9_count_14 (off := 62) (tgt := 76) (by rw [e]; decide) (by rw [e]; decide) (by rw [e]; rfl) (by decide) ?_
      refine lv_aload_n hx hb dX9_count_76 rfl (lv_at hl 0 rfl) ?_
      refine va_get (D := D) (ci := 9) (v := .ref aS) (C := RX9) (T := TX9) (N := 7) hx hb hts huX9 hown hK hP 0 rfl rfl 0 (by decide) (hts (.fieldLink RX9 12 "VerseColumns" "state" "LVerseColumns$State;") (by decide +kernel)) (fun _ h9 => h9) rfl dX9_count_77 ?_
      refine va_getN (D := D) (ci := 7) (v := .ref aL.1) (C := RX7) (T := TX7) (N := 3) hx hb hts huX7 hown hK hP 1 rfl rfl 0 (by decide) (hN.f 7 rfl) (fun _ h9 => h9) rfl dX9_count_80 ?_
      obtain ⟨q4, h3, h⟩ := Option.bind_eq_some_iff.mp h
      refine kcir [2, 3, 4, 5] (va_runV (As := []) (rest := []) ⟨hx, hb, hml, hown, hts⟩ (kX0_chapterTotal l D cI cC cS aL vL0 vL1 vL2 vL3 H.size h3) (cwV 0 hts gX9_count_X0_chapterTotal rfl rfl rfl (by decide +kernel) ⟨Nat.le_of_ble_eq_true rfl, Nat.le_of_ble_eq_true rfl⟩) (kpreV hK hN hP hD [2, 3, 4, 5] rfl (by decide) 0 rfl rfl) rfl rfl hl.1 rfl (lv_room (Nat.le_of_ble_eq_true rfl)) dX9_count_83 ⟨Nat.le_refl _, Nat.le_refl _⟩) hP hD hS hA rfl (fun H locs hP hS => ?_)
      obtain rfl := Option.some.inj h
      exact W.iret (v := q4) hx hb hr (fun t ht hW => ⟨⟨_, (), rfl, rfl, by rw [ht]; exact hP, hD⟩, hS.F ht⟩) hS.2.2 dX9_count_86
    · rw [if_neg g0] at h
      by_cases g1 : i1 = 1
      · rw [if_pos g1] at h
        have e : i1.toInt = 1 := by rw [g1]; rfl
        refine lv_tableIn hx hb dX9_count_14 (off := 73) (tgt := 87) (by rw [e]; decide) (by rw [e]; decide) (by rw [e]; rfl) (by decide) ?_
        refine lv_aload_n hx hb dX9_count_87 rfl (lv_at hl 0 rfl) ?_
        refine va_get (D := D) (ci := 9) (v := .ref aS) (C := RX9) (T := TX9) (N := 7) hx hb hts huX9 hown hK hP 0 rfl rfl 0 (by decide) (hts (.fieldLink RX9 12 "VerseColumns" "state" "LVerseColumns$State;") (by decide +kernel)) (fun _ h9 => h9) rfl dX9_count_88 ?_
        refine va_getN (D := D) (ci := 7) (v := .ref aR.1) (C := RX7) (T := TX7) (N := 3) hx hb hts huX7 hown hK hP 1 rfl rfl 1 (by decide) (hN.f 10 rfl) (fun _ h9 => h9) rfl dX9_count_91 ?_
        obtain ⟨q6, h5, h⟩ := Option.bind_eq_some_iff.mp h
        refine kcir [6, 7, 8, 9] (va_runV (As := []) (rest := []) ⟨hx, hb, hml, hown, hts⟩ (kX0_chapterTotal l D cI cC cS aR vR0 vR1 vR2 vR3 H.size h5) (cwV 0 hts gX9_count_X0_chapterTotal rfl rfl rfl (by decide +kernel) ⟨Nat.le_of_ble_eq_true rfl, Nat.le_of_ble_eq_true rfl⟩) (kpreV hK hN hP hD [6, 7, 8, 9] rfl (by decide) 0 rfl rfl) rfl rfl hl.1 rfl (lv_room (Nat.le_of_ble_eq_true rfl)) dX9_count_94 ⟨Nat.le_refl _, Nat.le_refl _⟩) hP hD hS hA rfl (fun H locs hP hS => ?_)
        obtain rfl := Option.some.inj h
        exact W.iret (v := q6) hx hb hr (fun t ht hW => ⟨⟨_, (), rfl, rfl, by rw [ht]; exact hP, hD⟩, hS.F ht⟩) hS.2.2 dX9_count_97
      · rw [if_neg g1] at h
        by_cases g2 : i1 = 2
        · rw [if_pos g2] at h
          have e : i1.toInt = 2 := by rw [g2]; rfl
          refine lv_tableIn hx hb dX9_count_14 (off := 84) (tgt := 98) (by rw [e]; decide) (by rw [e]; decide) (by rw [e]; rfl) (by decide) ?_
          refine lv_aload_n hx hb dX9_count_98 rfl (lv_at hl 0 rfl) ?_
          refine va_get (D := D) (ci := 9) (v := .ref aS) (C := RX9) (T := TX9) (N := 7) hx hb hts huX9 hown hK hP 0 rfl rfl 0 (by decide) (hts (.fieldLink RX9 12 "VerseColumns" "state" "LVerseColumns$State;") (by decide +kernel)) (fun _ h9 => h9) rfl dX9_count_99 ?_
          refine va_getN (D := D) (ci := 7) (v := .ref aL.1) (C := RX7) (T := TX7) (N := 3) hx hb hts huX7 hown hK hP 1 rfl rfl 0 (by decide) (hN.f 7 rfl) (fun _ h9 => h9) rfl dX9_count_102 ?_
          refine va_getN (D := D) (ci := 0) (v := .int vL3) (C := RX0) (T := TX0) (N := 4) hx hb hts huX0 hown hK hP 2 rfl rfl 3 (by decide) (hN.f 1 rfl) (fun _ h9 => h9) rfl dX9_count_105 ?_
          obtain rfl := Option.some.inj h
          exact W.iret (v := vL3) hx hb hr (fun t ht hW => ⟨⟨_, (), rfl, rfl, by rw [ht]; exact hP, hD⟩, hS.F ht⟩) hS.2.2 dX9_count_108
        · rw [if_neg g2] at h
          by_cases g3 : i1 = 3
          · rw [if_pos g3] at h
            have e : i1.toInt = 3 := by rw [g3]; rfl
            refine lv_tableIn hx hb dX9_count_14 (off := 95) (tgt := 109) (by rw [e]; decide) (by rw [e]; decide) (by rw [e]; rfl) (by decide) ?_
            refine lv_aload_n hx hb dX9_count_109 rfl (lv_at hl 0 rfl) ?_
            refine va_get (D := D) (ci := 9) (v := .ref aS) (C := RX9) (T := TX9) (N := 7) hx hb hts huX9 hown hK hP 0 rfl rfl 0 (by decide) (hts (.fieldLink RX9 12 "VerseColumns" "state" "LVerseColumns$State;") (by decide +kernel)) (fun _ h9 => h9) rfl dX9_count_110 ?_
            refine va_getN (D := D) (ci := 7) (v := .ref aR.1) (C := RX7) (T := TX7) (N := 3) hx hb hts huX7 hown hK hP 1 rfl rfl 1 (by decide) (hN.f 10 rfl) (fun _ h9 => h9) rfl dX9_count_113 ?_
            refine va_getN (D := D) (ci := 0) (v := .int vR3) (C := RX0) (T := TX0) (N := 4) hx hb hts huX0 hown hK hP 6 rfl rfl 3 (by decide) (hN.f 1 rfl) (fun _ h9 => h9) rfl dX9_count_116 ?_
            obtain rfl := Option.some.inj h
            exact W.iret (v := vR3) hx hb hr (fun t ht hW => ⟨⟨_, (), rfl, rfl, by rw [ht]; exact hP, hD⟩, hS.F ht⟩) hS.2.2 dX9_count_119
          · rw [if_neg g3] at h
            by_cases g4 : i1 = 4
            · rw [if_pos g4] at h
              have e : i1.toInt = 4 := by rw [g4]; rfl
              refine lv_tableIn hx hb dX9_count_14 (off := 106) (tgt := 120) (by rw [e]; decide) (by rw [e]; decide) (by rw [e]; rfl) (by decide) ?_
              refine lv_aload_n hx hb dX9_count_120 rfl (lv_at hl 0 rfl) ?_
              refine va_get (D := D) (ci := 9) (v := .ref aS) (C := RX9) (T := TX9) (N := 7) hx hb hts huX9 hown hK hP 0 rfl rfl 0 (by decide) (hts (.fieldLink RX9 12 "VerseColumns" "state" "LVerseColumns$State;") (by decide +kernel)) (fun _ h9 => h9) rfl dX9_count_121 ?_
              refine va_getN (D := D) (ci := 7) (v := .ref aM.1) (C := RX7) (T := TX7) (N := 3) hx hb hts huX7 hown hK hP 1 rfl rfl 2 (by decide) (hN.f 11 rfl) (fun _ h9 => h9) rfl dX9_count_124 ?_
              refine va_getN (D := D) (ci := 1) (v := .int vM2) (C := RX1) (T := TX1) (N := 3) hx hb hts huX1 hown hK hP 10 rfl rfl 2 (by decide) (hN.f 4 rfl) (fun _ h9 => h9) rfl dX9_count_127 ?_
              obtain rfl := Option.some.inj h
              exact W.iret (v := vM2) hx hb hr (fun t ht hW => ⟨⟨_, (), rfl, rfl, by rw [ht]; exact hP, hD⟩, hS.F ht⟩) hS.2.2 dX9_count_130
            · rw [if_neg g4] at h
              by_cases g5 : i1 = 5
              · rw [if_pos g5] at h
                have e : i1.toInt = 5 := by rw [g5]; rfl
                refine lv_tableIn hx hb dX9_count_14 (off := 163) (tgt := 177) (by rw [e]; decide) (by rw [e]; decide) (by rw [e]; rfl) (by decide) ?_
                refine lv_aload_n hx hb dX9_count_177 rfl (lv_at hl 0 rfl) ?_
                refine va_get (D := D) (ci := 9) (v := .ref aS) (C := RX9) (T := TX9) (N := 7) hx hb hts huX9 hown hK hP 0 rfl rfl 0 (by decide) (hts (.fieldLink RX9 12 "VerseColumns" "state" "LVerseColumns$State;") (by decide +kernel)) (fun _ h9 => h9) rfl dX9_count_178 ?_
                refine va_getN (D := D) (ci := 7) (v := .ref aM.1) (C := RX7) (T := TX7) (N := 3) hx hb hts huX7 hown hK hP 1 rfl rfl 2 (by decide) (hN.f 11 rfl) (fun _ h9 => h9) rfl dX9_count_181 ?_
                refine lv_iload_n hx hb dX9_count_184 rfl (lv_at hl 1 rfl) ?_
                refine lv_iconst (v := (5 : Int32)) hx hb dX9_count_185 (by decide) ?_
                refine lv_isub hx hb dX9_count_186 ?_
                obtain ⟨q8, h7, h⟩ := Option.bind_eq_some_iff.mp h
                refine kcir [10, 11, 12] (va_runV (As := [.int (i1 - (5 : Int32))]) (rest := []) ⟨hx, hb, hml, hown, hts⟩ (kX1_kindTotal l D cI cC cS aM vM0 vM1 vM2 (i1 - (5 : Int32)) H.size h7) (cwV 1 hts gX9_count_X1_kindTotal rfl rfl rfl (by decide +kernel) ⟨Nat.le_of_ble_eq_true rfl, Nat.le_of_ble_eq_true rfl⟩) (kpreV hK hN hP hD [10, 11, 12] rfl (by decide) 1 rfl rfl) rfl rfl hl.1 rfl (lv_room (Nat.le_of_ble_eq_true rfl)) dX9_count_187 ⟨Nat.le_refl _, Nat.le_refl _⟩) hP hD hS hA rfl (fun H locs hP hS => ?_)
                obtain rfl := Option.some.inj h
                exact W.iret (v := q8) hx hb hr (fun t ht hW => ⟨⟨_, (), rfl, rfl, by rw [ht]; exact hP, hD⟩, hS.F ht⟩) hS.2.2 dX9_count_190
              · rw [if_neg g5] at h
                by_cases g6 : i1 = 6
                · rw [if_pos g6] at h
                  have e : i1.toInt = 6 := by rw [g6]; rfl
                  refine lv_tableIn hx hb dX9_count_14 (off := 163) (tgt := 177) (by rw [e]; decide) (by rw [e]; decide) (by rw [e]; rfl) (by decide) ?_
                  refine lv_aload_n hx hb dX9_count_177 rfl (lv_at hl 0 rfl) ?_
                  refine va_get (D := D) (ci := 9) (v := .ref aS) (C := RX9) (T := TX9) (N := 7) hx hb hts huX9 hown hK hP 0 rfl rfl 0 (by decide) (hts (.fieldLink RX9 12 "VerseColumns" "state" "LVerseColumns$State;") (by decide +kernel)) (fun _ h9 => h9) rfl dX9_count_178 ?_
                  refine va_getN (D := D) (ci := 7) (v := .ref aM.1) (C := RX7) (T := TX7) (N := 3) hx hb hts huX7 hown hK hP 1 rfl rfl 2 (by decide) (hN.f 11 rfl) (fun _ h9 => h9) rfl dX9_count_181 ?_
                  refine lv_iload_n hx hb dX9_count_184 rfl (lv_at hl 1 rfl) ?_
                  refine lv_iconst (v := (5 : Int32)) hx hb dX9_count_185 (by decide) ?_
                  refine lv_isub hx hb dX9_count_186 ?_
                  obtain ⟨q10, h9, h⟩ := Option.bind_eq_some_iff.mp h
                  refine kcir [10, 11, 12] (va_runV (As := [.int (i1 - (5 : Int32))]) (rest := []) ⟨hx, hb, hml, hown, hts⟩ (kX1_kindTotal l D cI cC cS aM vM0 vM1 vM2 (i1 - (5 : Int32)) H.size h9) (cwV 1 hts gX9_count_X1_kindTotal rfl rfl rfl (by decide +kernel) ⟨Nat.le_of_ble_eq_true rfl, Nat.le_of_ble_eq_true rfl⟩) (kpreV hK hN hP hD [10, 11, 12] rfl (by decide) 1 rfl rfl) rfl rfl hl.1 rfl (lv_room (Nat.le_of_ble_eq_true rfl)) dX9_count_187 ⟨Nat.le_refl _, Nat.le_refl _⟩) hP hD hS hA rfl (fun H locs hP hS => ?_)
                  obtain rfl := Option.some.inj h
                  exact W.iret (v := q10) hx hb hr (fun t ht hW => ⟨⟨_, (), rfl, rfl, by rw [ht]; exact hP, hD⟩, hS.F ht⟩) hS.2.2 dX9_count_190
                · rw [if_neg g6] at h
                  by_cases g7 : i1 = 7
                  · rw [if_pos g7] at h
                    have e : i1.toInt = 7 := by rw [g7]; rfl
                    refine lv_tableIn hx hb dX9_count_14 (off := 163) (tgt := 177) (by rw [e]; decide) (by rw [e]; decide) (by rw [e]; rfl) (by decide) ?_
                    refine lv_aload_n hx hb dX9_count_177 rfl (lv_at hl 0 rfl) ?_
                    refine va_get (D := D) (ci := 9) (v := .ref aS) (C := RX9) (T := TX9) (N := 7) hx hb hts huX9 hown hK hP 0 rfl rfl 0 (by decide) (hts (.fieldLink RX9 12 "VerseColumns" "state" "LVerseColumns$State;") (by decide +kernel)) (fun _ h9 => h9) rfl dX9_count_178 ?_
                    refine va_getN (D := D) (ci := 7) (v := .ref aM.1) (C := RX7) (T := TX7) (N := 3) hx hb hts huX7 hown hK hP 1 rfl rfl 2 (by decide) (hN.f 11 rfl) (fun _ h9 => h9) rfl dX9_count_181 ?_
                    refine lv_iload_n hx hb dX9_count_184 rfl (lv_at hl 1 rfl) ?_
                    refine lv_iconst (v := (5 : Int32)) hx hb dX9_count_185 (by decide) ?_
                    refine lv_isub hx hb dX9_count_186 ?_
                    obtain ⟨q12, h11, h⟩ := Option.bind_eq_some_iff.mp h
                    refine kcir [10, 11, 12] (va_runV (As := [.int (i1 - (5 : Int32))]) (rest := []) ⟨hx, hb, hml, hown, hts⟩ (kX1_kindTotal l D cI cC cS aM vM0 vM1 vM2 (i1 - (5 : Int32)) H.size h11) (cwV 1 hts gX9_count_X1_kindTotal rfl rfl rfl (by decide +kernel) ⟨Nat.le_of_ble_eq_true rfl, Nat.le_of_ble_eq_true rfl⟩) (kpreV hK hN hP hD [10, 11, 12] rfl (by decide) 1 rfl rfl) rfl rfl hl.1 rfl (lv_room (Nat.le_of_ble_eq_true rfl)) dX9_count_187 ⟨Nat.le_refl _, Nat.le_refl _⟩) hP hD hS hA rfl (fun H locs hP hS => ?_)
                    obtain rfl := Option.some.inj h
                    exact W.iret (v := q12) hx hb hr (fun t ht hW => ⟨⟨_, (), rfl, rfl, by rw [ht]; exact hP, hD⟩, hS.F ht⟩) hS.2.2 dX9_count_190
                  · rw [if_neg g7] at h
                    by_cases g8 : i1 = 8
                    · rw [if_pos g8] at h
                      have e : i1.toInt = 8 := by rw [g8]; rfl
                      refine lv_tableIn hx hb dX9_count_14 (off := 163) (tgt := 177) (by rw [e]; decide) (by rw [e]; decide) (by rw [e]; rfl) (by decide) ?_
                      refine lv_aload_n hx hb dX9_count_177 rfl (lv_at hl 0 rfl) ?_
                      refine va_get (D := D) (ci := 9) (v := .ref aS) (C := RX9) (T := TX9) (N := 7) hx hb hts huX9 hown hK hP 0 rfl rfl 0 (by decide) (hts (.fieldLink RX9 12 "VerseColumns" "state" "LVerseColumns$State;") (by decide +kernel)) (fun _ h9 => h9) rfl dX9_count_178 ?_
                      refine va_getN (D := D) (ci := 7) (v := .ref aM.1) (C := RX7) (T := TX7) (N := 3) hx hb hts huX7 hown hK hP 1 rfl rfl 2 (by decide) (hN.f 11 rfl) (fun _ h9 => h9) rfl dX9_count_181 ?_
                      refine lv_iload_n hx hb dX9_count_184 rfl (lv_at hl 1 rfl) ?_
                      refine lv_iconst (v := (5 : Int32)) hx hb dX9_count_185 (by decide) ?_
                      refine lv_isub hx hb dX9_count_186 ?_
                      obtain ⟨q14, h13, h⟩ := Option.bind_eq_some_iff.mp h
                      refine kcir [10, 11, 12] (va_runV (As := [.int (i1 - (5 : Int32))]) (rest := []) ⟨hx, hb, hml, hown, hts⟩ (kX1_kindTotal l D cI cC cS aM vM0 vM1 vM2 (i1 - (5 : Int32)) H.size h13) (cwV 1 hts gX9_count_X1_kindTotal rfl rfl rfl (by decide +kernel) ⟨Nat.le_of_ble_eq_true rfl, Nat.le_of_ble_eq_true rfl⟩) (kpreV hK hN hP hD [10, 11, 12] rfl (by decide) 1 rfl rfl) rfl rfl hl.1 rfl (lv_room (Nat.le_of_ble_eq_true rfl)) dX9_count_187 ⟨Nat.le_refl _, Nat.le_refl _⟩) hP hD hS hA rfl (fun H locs hP hS => ?_)
                      obtain rfl := Option.some.inj h
                      exact W.iret (v := q14) hx hb hr (fun t ht hW => ⟨⟨_, (), rfl, rfl, by rw [ht]; exact hP, hD⟩, hS.F ht⟩) hS.2.2 dX9_count_190
                    · rw [if_neg g8] at h
                      by_cases g9 : i1 = 9
                      · rw [if_pos g9] at h
                        have e : i1.toInt = 9 := by rw [g9]; rfl
                        refine lv_tableIn hx hb dX9_count_14 (off := 117) (tgt := 131) (by rw [e]; decide) (by rw [e]; decide) (by rw [e]; rfl) (by decide) ?_
                        refine lv_aload_n hx hb dX9_count_131 rfl (lv_at hl 0 rfl) ?_
                        refine va_get (D := D) (ci := 9) (v := .ref aY.1) (C := RX9) (T := TX9) (N := 7) hx hb hts huX9 hown hK hP 0 rfl rfl 6 (by decide) (hts (.fieldLink RX9 54 "VerseColumns" "layout" "LVerseColumns$Layout;") (by decide +kernel)) (fun _ h9 => h9) rfl dX9_count_132 ?_
                        refine lv_aload_n hx hb dX9_count_135 rfl (lv_at hl 0 rfl) ?_
                        refine va_get (D := D) (ci := 9) (v := .ref aS) (C := RX9) (T := TX9) (N := 7) hx hb hts huX9 hown hK hP 0 rfl rfl 0 (by decide) (hts (.fieldLink RX9 12 "VerseColumns" "state" "LVerseColumns$State;") (by decide +kernel)) (fun _ h9 => h9) rfl dX9_count_136 ?_
                        obtain ⟨q16, h15, h⟩ := Option.bind_eq_some_iff.mp h
                        refine kcvw (ws' := (wVC aV aS aH.1 xV2 xV3 xV4 xV5 aY.1 ++ (wSC aS aL.1 aR.1 aM.1 ++ (wBK cI aL vL0 vL1 vL2 vL3 ++ (wBK cI aR vR0 vR1 vR2 vR3 ++ (wMP cI aM vM0 vM1 vM2 ++ (wHI cI cS aH vH0 0 vH2 vH3 vH4 vH5 vH6 ++ wLY cI aY vY0 vY1 vY2 vY3 q16.1 q16.2.1 q16.2.2.1 q16.2.2.2.1 q16.2.2.2.2.1 q16.2.2.2.2.2.1 q16.2.2.2.2.2.2))))))) [75, 76, 77, 78, 79, 1, 2, 3, 4, 5, 6, 7, 8, 9, 10, 11, 12] (va_runV (As := [.ref aS]) (rest := []) ⟨hx, hb, hml, hown, hts⟩ (kX3_arrange l D cI cC cS aY vY0 vY1 vY2 vY3 vY4 vY5 vY6 vY7 vY8 vY9 vY10 aS aL vL0 vL1 vL2 vL3 aR vR0 vR1 vR2 vR3 aM vM0 vM1 vM2 H.size h15) (cwV 1 hts gX9_count_X3_arrange rfl rfl rfl (by decide +kernel) ⟨Nat.le_of_ble_eq_true rfl, Nat.le_of_ble_eq_true rfl⟩) (kpreV hK hN hP hD [75, 76, 77, 78, 79, 1, 2, 3, 4, 5, 6, 7, 8, 9, 10, 11, 12] rfl (by decide +kernel) 3 rfl rfl) rfl rfl hl.1 rfl (lv_room (Nat.le_of_ble_eq_true rfl)) dX9_count_139 ⟨Nat.le_refl _, Nat.le_refl _⟩) hP hD hS hA rfl (by decide +kernel) rfl [0, 6, 7, 8, 9, 10, 11, 12, 13, 14, 15, 16, 17, 0, 0, 0, 0, 0, 0, 0, 0, 0, 0, 0, 0, 0, 0, 0, 0, 0, 0, 0, 0, 0, 0, 0, 0, 0, 0, 0, 0, 0, 0, 0, 0, 0, 0, 0, 0, 0, 0, 0, 0, 0, 0, 0, 0, 0, 0, 0, 0, 0, 0, 0, 0, 0, 0, 0, 0, 0, 0, 0, 0, 0, 0, 1, 2, 3, 4, 5] (by decide +kernel) rfl (fun H locs hP hD hS => ?_)
                        refine lv_aload_n hx hb dX9_count_142 rfl (lv_at hl 0 rfl) ?_
                        refine va_get (D := D) (ci := 9) (v := .ref aY.1) (C := RX9) (T := TX9) (N := 7) hx hb hts huX9 hown hK hP 0 rfl rfl 6 (by decide) (hts (.fieldLink RX9 54 "VerseColumns" "layout" "LVerseColumns$Layout;") (by decide +kernel)) (fun _ h9 => h9) rfl dX9_count_143 ?_
                        refine va_getN (D := D) (ci := 3) (v := .int q16.2.2.2.2.2.1) (C := RX3) (T := TX3) (N := 11) hx hb hts huX3 hown hK hP 75 rfl rfl 9 (by decide) (hN.f 26 rfl) (fun _ h9 => h9) rfl dX9_count_146 ?_
                        obtain rfl := Option.some.inj h
                        exact W.iret (v := q16.2.2.2.2.2.1) hx hb hr (fun t ht hW => ⟨⟨_, (), rfl, rfl, by rw [ht]; exact hP, hD⟩, hS.F ht⟩) hS.2.2 dX9_count_149
                      · rw [if_neg g9] at h
                        by_cases g10 : i1 = 10
                        · rw [if_pos g10] at h
                          have e : i1.toInt = 10 := by rw [g10]; rfl
                          refine lv_tableIn hx hb dX9_count_14 (off := 136) (tgt := 150) (by rw [e]; decide) (by rw [e]; decide) (by rw [e]; rfl) (by decide) ?_
                          refine lv_aload_n hx hb dX9_count_150 rfl (lv_at hl 0 rfl) ?_
                          refine va_get (D := D) (ci := 9) (v := .ref aY.1) (C := RX9) (T := TX9) (N := 7) hx hb hts huX9 hown hK hP 0 rfl rfl 6 (by decide) (hts (.fieldLink RX9 54 "VerseColumns" "layout" "LVerseColumns$Layout;") (by decide +kernel)) (fun _ h9 => h9) rfl dX9_count_151 ?_
                          refine lv_aload_n hx hb dX9_count_154 rfl (lv_at hl 0 rfl) ?_
                          refine va_get (D := D) (ci := 9) (v := .ref aS) (C := RX9) (T := TX9) (N := 7) hx hb hts huX9 hown hK hP 0 rfl rfl 0 (by decide) (hts (.fieldLink RX9 12 "VerseColumns" "state" "LVerseColumns$State;") (by decide +kernel)) (fun _ h9 => h9) rfl dX9_count_155 ?_
                          obtain ⟨q18, h17, h⟩ := Option.bind_eq_some_iff.mp h
                          refine kcvw (ws' := (wVC aV aS aH.1 xV2 xV3 xV4 xV5 aY.1 ++ (wSC aS aL.1 aR.1 aM.1 ++ (wBK cI aL vL0 vL1 vL2 vL3 ++ (wBK cI aR vR0 vR1 vR2 vR3 ++ (wMP cI aM vM0 vM1 vM2 ++ (wHI cI cS aH vH0 0 vH2 vH3 vH4 vH5 vH6 ++ wLY cI aY vY0 vY1 vY2 vY3 q18.1 q18.2.1 q18.2.2.1 q18.2.2.2.1 q18.2.2.2.2.1 q18.2.2.2.2.2.1 q18.2.2.2.2.2.2))))))) [75, 76, 77, 78, 79, 1, 2, 3, 4, 5, 6, 7, 8, 9, 10, 11, 12] (va_runV (As := [.ref aS]) (rest := []) ⟨hx, hb, hml, hown, hts⟩ (kX3_arrange l D cI cC cS aY vY0 vY1 vY2 vY3 vY4 vY5 vY6 vY7 vY8 vY9 vY10 aS aL vL0 vL1 vL2 vL3 aR vR0 vR1 vR2 vR3 aM vM0 vM1 vM2 H.size h17) (cwV 1 hts gX9_count_X3_arrange rfl rfl rfl (by decide +kernel) ⟨Nat.le_of_ble_eq_true rfl, Nat.le_of_ble_eq_true rfl⟩) (kpreV hK hN hP hD [75, 76, 77, 78, 79, 1, 2, 3, 4, 5, 6, 7, 8, 9, 10, 11, 12] rfl (by decide +kernel) 3 rfl rfl) rfl rfl hl.1 rfl (lv_room (Nat.le_of_ble_eq_true rfl)) dX9_count_158 ⟨Nat.le_refl _, Nat.le_refl _⟩) hP hD hS hA rfl (by decide +kernel) rfl [0, 6, 7, 8, 9, 10, 11, 12, 13, 14, 15, 16, 17, 0, 0, 0, 0, 0, 0, 0, 0, 0, 0, 0, 0, 0, 0, 0, 0, 0, 0, 0, 0, 0, 0, 0, 0, 0, 0, 0, 0, 0, 0, 0, 0, 0, 0, 0, 0, 0, 0, 0, 0, 0, 0, 0, 0, 0, 0, 0, 0, 0, 0, 0, 0, 0, 0, 0, 0, 0, 0, 0, 0, 0, 0, 1, 2, 3, 4, 5] (by decide +kernel) rfl (fun H locs hP hD hS => ?_)
                          refine lv_aload_n hx hb dX9_count_161 rfl (lv_at hl 0 rfl) ?_
                          refine va_get (D := D) (ci := 9) (v := .ref aY.1) (C := RX9) (T := TX9) (N := 7) hx hb hts huX9 hown hK hP 0 rfl rfl 6 (by decide) (hts (.fieldLink RX9 54 "VerseColumns" "layout" "LVerseColumns$Layout;") (by decide +kernel)) (fun _ h9 => h9) rfl dX9_count_162 ?_
                          refine va_getN (D := D) (ci := 3) (v := .int q18.2.2.2.2.2.2) (C := RX3) (T := TX3) (N := 11) hx hb hts huX3 hown hK hP 75 rfl rfl 10 (by decide) (hN.f 27 rfl) (fun _ h9 => h9) rfl dX9_count_165 ?_
                          obtain rfl := Option.some.inj h
                          exact W.iret (v := q18.2.2.2.2.2.2) hx hb hr (fun t ht hW => ⟨⟨_, (), rfl, rfl, by rw [ht]; exact hP, hD⟩, hS.F ht⟩) hS.2.2 dX9_count_168
                        · rw [if_neg g10] at h
                          by_cases g11 : i1 = 11
                          · rw [if_pos g11] at h
                            have e : i1.toInt = 11 := by rw [g11]; rfl
                            refine lv_tableIn hx hb dX9_count_14 (off := 155) (tgt := 169) (by rw [e]; decide) (by rw [e]; decide) (by rw [e]; rfl) (by decide) ?_
                            refine lv_aload_n hx hb dX9_count_169 rfl (lv_at hl 0 rfl) ?_
                            refine va_get (D := D) (ci := 9) (v := .ref aH.1) (C := RX9) (T := TX9) (N := 7) hx hb hts huX9 hown hK hP 0 rfl rfl 1 (by decide) (hts (.fieldLink RX9 19 "VerseColumns" "history" "LVerseColumns$History;") (by decide +kernel)) (fun _ h9 => h9) rfl dX9_count_170 ?_
                            refine va_getN (D := D) (ci := 2) (v := .int vH0) (C := RX2) (T := TX2) (N := 2) hx hb hts huX2 hown hK hP 13 rfl rfl 1 (by decide) (hN.f 13 rfl) (fun _ h9 => h9) rfl dX9_count_173 ?_
                            obtain rfl := Option.some.inj h
                            exact W.iret (v := vH0) hx hb hr (fun t ht hW => ⟨⟨_, (), rfl, rfl, by rw [ht]; exact hP, hD⟩, hS.F ht⟩) hS.2.2 dX9_count_176
                          · rw [if_neg g11] at h
                            have e0 := lv_neT (a := 0) g0 rfl
                            have e1 := lv_neT (a := 1) g1 rfl
                            have e2 := lv_neT (a := 2) g2 rfl
                            have e3 := lv_neT (a := 3) g3 rfl
                            have e4 := lv_neT (a := 4) g4 rfl
                            have e5 := lv_neT (a := 5) g5 rfl
                            have e6 := lv_neT (a := 6) g6 rfl
                            have e7 := lv_neT (a := 7) g7 rfl
                            have e8 := lv_neT (a := 8) g8 rfl
                            have e9 := lv_neT (a := 9) g9 rfl
                            have e10 := lv_neT (a := 10) g10 rfl
                            have e11 := lv_neT (a := 11) g11 rfl
                            refine lv_tableOut hx hb dX9_count_14 (tgt := 177) (by omega) (by decide) ?_
                            refine lv_aload_n hx hb dX9_count_177 rfl (lv_at hl 0 rfl) ?_
                            refine va_get (D := D) (ci := 9) (v := .ref aS) (C := RX9) (T := TX9) (N := 7) hx hb hts huX9 hown hK hP 0 rfl rfl 0 (by decide) (hts (.fieldLink RX9 12 "VerseColumns" "state" "LVerseColumns$State;") (by decide +kernel)) (fun _ h9 => h9) rfl dX9_count_178 ?_
                            refine va_getN (D := D) (ci := 7) (v := .ref aM.1) (C := RX7) (T := TX7) (N := 3) hx hb hts huX7 hown hK hP 1 rfl rfl 2 (by decide) (hN.f 11 rfl) (fun _ h9 => h9) rfl dX9_count_181 ?_
                            refine lv_iload_n hx hb dX9_count_184 rfl (lv_at hl 1 rfl) ?_
                            refine lv_iconst (v := (5 : Int32)) hx hb dX9_count_185 (by decide) ?_
                            refine lv_isub hx hb dX9_count_186 ?_
                            obtain ⟨q20, h19, h⟩ := Option.bind_eq_some_iff.mp h
                            refine kcir [10, 11, 12] (va_runV (As := [.int (i1 - (5 : Int32))]) (rest := []) ⟨hx, hb, hml, hown, hts⟩ (kX1_kindTotal l D cI cC cS aM vM0 vM1 vM2 (i1 - (5 : Int32)) H.size h19) (cwV 1 hts gX9_count_X1_kindTotal rfl rfl rfl (by decide +kernel) ⟨Nat.le_of_ble_eq_true rfl, Nat.le_of_ble_eq_true rfl⟩) (kpreV hK hN hP hD [10, 11, 12] rfl (by decide) 1 rfl rfl) rfl rfl hl.1 rfl (lv_room (Nat.le_of_ble_eq_true rfl)) dX9_count_187 ⟨Nat.le_refl _, Nat.le_refl _⟩) hP hD hS hA rfl (fun H locs hP hS => ?_)
                            obtain rfl := Option.some.inj h
                            exact W.iret (v := q20) hx hb hr (fun t ht hW => ⟨⟨_, (), rfl, rfl, by rw [ht]; exact hP, hD⟩, hS.F ht⟩) hS.2.2 dX9_count_190
  · rw [if_pos g] at h
    refine lv_bipush (v := (-2 : Int32)) hx hb dX9_count_10 (by decide) ?_
    obtain rfl := Option.some.inj h
    exact W.iret (v := (-2 : Int32)) hx hb hr (fun t ht hW => ⟨⟨_, (), rfl, rfl, by rw [ht]; exact hP, hD⟩, hS.F ht⟩) hS.2.2 dX9_count_12
