-- walks: vc (printed by wip/whole/gen)
set_option maxHeartbeats 8000000 in
set_option maxRecDepth 100000 in
theorem kX9_page (l : Launch) (D : va_G) (cI cC cS : ClassId) (aV : Nat) (xV1 : Nat) (xV2 : Nat) (xV3 : Nat) (xV4 : Nat) (xV5 : Nat) (aS : Nat) (aL : Nat × Nat × Nat × Nat) (vL0 : (Nat → Int32)) (vL1 : (Nat → Int32)) (vL2 : (Nat → Int32)) (vL3 : Int32) (aR : Nat × Nat × Nat × Nat) (vR0 : (Nat → Int32)) (vR1 : (Nat → Int32)) (vR2 : (Nat → Int32)) (vR3 : Int32) (aM : Nat × Nat × Nat) (vM0 : (Nat → Int32)) (vM1 : (Nat → Int32)) (vM2 : Int32) (aY : Nat × Nat × Nat × Nat × Nat) (vY0 : Int32) (vY1 : Int32) (vY2 : Int32) (vY3 : Int32) (vY4 : (Nat → Int32)) (vY5 : (Nat → Int32)) (vY6 : (Nat → Int32)) (vY7 : (Nat → Int32)) (vY8 : Int32) (vY9 : Int32) (vY10 : Int32) (i1 : Int32) (i2 : Int32) (sz : Nat) {q : Int32 × (Nat → Int32) × (Nat → Int32) × (Nat → Int32) × (Nat → Int32) × Int32 × Int32 × Int32} (h : pX9_page vL0 vL1 vL2 vL3 vR0 vR1 vR2 vR3 vM0 vM1 vM2 vY0 vY1 vY2 vY3 vY4 vY5 vY6 vY7 vY8 vY9 vY10 i1 i2 = some q) : kMi l yX9_page wsX9_page ({ frames := 6, cells := 0, slots := 0, locals := 138 } : Room) D (kTy cI cC cS) [.ref aV, .int i1, .int i2] (wVC aV aS xV1 xV2 xV3 xV4 xV5 aY.1 ++ (wSC aS aL.1 aR.1 aM.1 ++ (wBK cI aL vL0 vL1 vL2 vL3 ++ (wBK cI aR vR0 vR1 vR2 vR3 ++ (wMP cI aM vM0 vM1 vM2 ++ wLY cI aY vY0 vY1 vY2 vY3 vY4 vY5 vY6 vY7 vY8 vY9 vY10))))) sz q.1 (wVC aV aS xV1 xV2 xV3 xV4 xV5 aY.1 ++ (wSC aS aL.1 aR.1 aM.1 ++ (wBK cI aL vL0 vL1 vL2 vL3 ++ (wBK cI aR vR0 vR1 vR2 vR3 ++ (wMP cI aM vM0 vM1 vM2 ++ wLY cI aY vY0 vY1 vY2 vY3 q.2.1 q.2.2.1 q.2.2.2.1 q.2.2.2.2.1 q.2.2.2.2.2.1 q.2.2.2.2.2.2.1 q.2.2.2.2.2.2.2))))) := by
  refine Met.ofW (cc := cX9_page) (maxL := 3) (ret := (some .int)) (by decide) rfl ?_
  intro p e s m args below meth c s₁ B hml hv
  obtain ⟨rfl, hsz, hP, hK, hD0, hN⟩ := hv
  have hx := B.exec
  have hb := B.bytes
  have hr := B.returns
  have hts := atoms_spec (ws := wsX9_page) B.pre
  have hown : s.vm.findClass RX9 = some m.cls := findClass_of_methodNamed B.named
  have hlocks := B.notSynchronized
  subst hsz
  have hD := hD0.self (sz := s.heap.size)
  generalize hAe : va_A (wVC aV aS xV1 xV2 xV3 xV4 xV5 aY.1 ++ (wSC aS aL.1 aR.1 aM.1 ++ (wBK cI aL vL0 vL1 vL2 vL3 ++ (wBK cI aR vR0 vR1 vR2 vR3 ++ (wMP cI aM vM0 vM1 vM2 ++ wLY cI aY vY0 vY1 vY2 vY3 vY4 vY5 vY6 vY7 vY8 vY9 vY10))))) s.heap.size = A at hD ⊢
  have hA : ∀ q : Nat, s.heap.size ≤ q → A q := fun q h => by rw [← hAe]; exact Or.inr h
  have hS : va_S A s.heap s.heap [] := va_S.rf
  have huX3 : ∀ w ∈ u_ws RX3 TX3 11, w ∈ wsX9_page := by decide +kernel
  have huX9 : ∀ w ∈ u_ws RX9 TX9 7, w ∈ wsX9_page := by decide +kernel
  have hl := lv_entry ([.ref aV, .int i1, .int i2]) (n := 3) (Nat.le_of_ble_eq_true rfl)
  rw [lg_entry_eq]
  generalize (lg_sl ([.ref aV, .int i1, .int i2]) ++ List.replicate (3 - (lg_sl ([.ref aV, .int i1, .int i2])).length) Slot.unset).toArray = ls at hl ⊢
  have hl : lv_has ls 3 [(0, .ref aV), (1, .int i1), (2, .int i2)] := hl
  unfold pX9_page at h
  refine lv_iload_n hx hb dX9_page_0 rfl (lv_at hl 1 rfl) ?_
  refine lv_if_lt (tgt := 13) hx hb dX9_page_1 (by decide) (fun g => ?_) (fun g => ?_)
  · rw [if_pos g] at h
    refine lv_bipush (v := (-2 : Int32)) hx hb dX9_page_13 (by decide) ?_
    obtain rfl := Option.some.inj h
    exact W.iret (v := (-2 : Int32)) hx hb hr (fun t ht hW => ⟨⟨_, (), rfl, rfl, by rw [ht]; exact hP, hD⟩, hS.F ht⟩) hS.2.2 dX9_page_15
  · rw [if_neg g] at h
    refine lv_iload_n hx hb dX9_page_4 rfl (lv_at hl 2 rfl) ?_
    refine lv_iconst (v := (0 : Int32)) hx hb dX9_page_5 (by decide) ?_
    refine lv_iconst (v := (4 : Int32)) hx hb dX9_page_6 (by decide) ?_
    obtain ⟨q2, h1, h⟩ := Option.bind_eq_some_iff.mp h
    refine kcir [] (va_runS (As := [.int i2, .int (0 : Int32), .int (4 : Int32)]) (rest := []) ⟨hx, hb, hml, hown, hts⟩ (kX9_isWithin l D cI cC cS i2 (0 : Int32) (4 : Int32) s.heap.size h1) (cwS 3 hts gX9_page_X9_isWithin rfl rfl rfl (by decide +kernel) ⟨Nat.le_of_ble_eq_true rfl, Nat.le_of_ble_eq_true rfl⟩) (kpre hK hN hP hD [] rfl (by decide)) rfl rfl hl.1 rfl (lv_room (Nat.le_of_ble_eq_true rfl)) dX9_page_7 ⟨Nat.le_refl _, Nat.le_refl _⟩) hP hD hS hA rfl (fun H locs hP hS => ?_)
    refine lv_if_ne (tgt := 16) hx hb dX9_page_10 (by decide) (fun g => ?_) (fun g => ?_)
    · rw [if_neg g] at h
      refine lv_aload_n hx hb dX9_page_16 rfl (lv_at hl 0 rfl) ?_
      refine va_get (D := D) (ci := 9) (v := .ref aY.1) (C := RX9) (T := TX9) (N := 7) hx hb hts huX9 hown hK hP 0 rfl rfl 6 (by decide) (hts (.fieldLink RX9 54 "VerseColumns" "layout" "LVerseColumns$Layout;") (by decide +kernel)) (fun _ h9 => h9) rfl dX9_page_17 ?_
      refine lv_aload_n hx hb dX9_page_20 rfl (lv_at hl 0 rfl) ?_
      refine va_get (D := D) (ci := 9) (v := .ref aS) (C := RX9) (T := TX9) (N := 7) hx hb hts huX9 hown hK hP 0 rfl rfl 0 (by decide) (hts (.fieldLink RX9 12 "VerseColumns" "state" "LVerseColumns$State;") (by decide +kernel)) (fun _ h9 => h9) rfl dX9_page_21 ?_
      obtain ⟨q4, h3, h⟩ := Option.bind_eq_some_iff.mp h
      refine kcvw (ws' := (wVC aV aS xV1 xV2 xV3 xV4 xV5 aY.1 ++ (wSC aS aL.1 aR.1 aM.1 ++ (wBK cI aL vL0 vL1 vL2 vL3 ++ (wBK cI aR vR0 vR1 vR2 vR3 ++ (wMP cI aM vM0 vM1 vM2 ++ wLY cI aY vY0 vY1 vY2 vY3 q4.1 q4.2.1 q4.2.2.1 q4.2.2.2.1 q4.2.2.2.2.1 q4.2.2.2.2.2.1 q4.2.2.2.2.2.2)))))) [13, 14, 15, 16, 17, 1, 2, 3, 4, 5, 6, 7, 8, 9, 10, 11, 12] (va_runV (As := [.ref aS]) (rest := []) ⟨hx, hb, hml, hown, hts⟩ (kX3_arrange l D cI cC cS aY vY0 vY1 vY2 vY3 vY4 vY5 vY6 vY7 vY8 vY9 vY10 aS aL vL0 vL1 vL2 vL3 aR vR0 vR1 vR2 vR3 aM vM0 vM1 vM2 H.size h3) (cwV 1 hts gX9_page_X3_arrange rfl rfl rfl (by decide +kernel) ⟨Nat.le_of_ble_eq_true rfl, Nat.le_of_ble_eq_true rfl⟩) (kpreV hK hN hP hD [13, 14, 15, 16, 17, 1, 2, 3, 4, 5, 6, 7, 8, 9, 10, 11, 12] rfl (by decide +kernel) 3 rfl rfl) rfl rfl hl.1 rfl (lv_room (Nat.le_of_ble_eq_true rfl)) dX9_page_24 ⟨Nat.le_refl _, Nat.le_refl _⟩) hP hD hS hA rfl (by decide +kernel) rfl [0, 6, 7, 8, 9, 10, 11, 12, 13, 14, 15, 16, 17, 1, 2, 3, 4, 5] (by decide +kernel) rfl (fun H locs hP hD hS => ?_)
      refine lv_iload_n hx hb dX9_page_27 rfl (lv_at hl 1 rfl) ?_
      refine lv_aload_n hx hb dX9_page_28 rfl (lv_at hl 0 rfl) ?_
      refine va_get (D := D) (ci := 9) (v := .ref aY.1) (C := RX9) (T := TX9) (N := 7) hx hb hts huX9 hown hK hP 0 rfl rfl 6 (by decide) (hts (.fieldLink RX9 54 "VerseColumns" "layout" "LVerseColumns$Layout;") (by decide +kernel)) (fun _ h9 => h9) rfl dX9_page_29 ?_
      refine va_getN (D := D) (ci := 3) (v := .int q4.2.2.2.2.2.1) (C := RX3) (T := TX3) (N := 11) hx hb hts huX3 hown hK hP 13 rfl rfl 9 (by decide) (hN.f 26 rfl) (fun _ h9 => h9) rfl dX9_page_32 ?_
      refine lv_icmp_lt (tgt := 41) hx hb dX9_page_35 (by decide) (fun g => ?_) (fun g => ?_)
      · rw [if_pos g] at h
        refine lv_iload_n hx hb dX9_page_41 rfl (lv_at hl 2 rfl) ?_
        by_cases g0 : i2 = 0
        · rw [if_pos g0] at h
          have e : i2.toInt = 0 := by rw [g0]; rfl
          refine lv_tableIn hx hb dX9_page_42 (off := 30) (tgt := 72) (by rw [e]; decide) (by rw [e]; decide) (by rw [e]; rfl) (by decide) ?_
          refine lv_aload_n hx hb dX9_page_72 rfl (lv_at hl 0 rfl) ?_
          refine va_get (D := D) (ci := 9) (v := .ref aY.1) (C := RX9) (T := TX9) (N := 7) hx hb hts huX9 hown hK hP 0 rfl rfl 6 (by decide) (hts (.fieldLink RX9 54 "VerseColumns" "layout" "LVerseColumns$Layout;") (by decide +kernel)) (fun _ h9 => h9) rfl dX9_page_73 ?_
          refine lv_iload_n hx hb dX9_page_76 rfl (lv_at hl 1 rfl) ?_
          obtain ⟨q6, h5, h⟩ := Option.bind_eq_some_iff.mp h
          refine kcir [13, 14, 15, 16, 17] (va_runV (As := [.int i1]) (rest := []) ⟨hx, hb, hml, hown, hts⟩ (kX3_firstGroupOf l D cI cC cS aY vY0 vY1 vY2 vY3 q4.1 q4.2.1 q4.2.2.1 q4.2.2.2.1 q4.2.2.2.2.1 q4.2.2.2.2.2.1 q4.2.2.2.2.2.2 i1 H.size h5) (cwV 1 hts gX9_page_X3_firstGroupOf rfl rfl rfl (by decide +kernel) ⟨Nat.le_of_ble_eq_true rfl, Nat.le_of_ble_eq_true rfl⟩) (kpreV hK hN hP hD [13, 14, 15, 16, 17] rfl (by decide) 3 rfl rfl) rfl rfl hl.1 rfl (lv_room (Nat.le_of_ble_eq_true rfl)) dX9_page_77 ⟨Nat.le_refl _, Nat.le_refl _⟩) hP hD hS hA rfl (fun H locs hP hS => ?_)
          obtain rfl := Option.some.inj h
          exact W.iret (v := q6) hx hb hr (fun t ht hW => ⟨⟨_, (), rfl, rfl, by rw [ht]; exact hP, hD⟩, hS.F ht⟩) hS.2.2 dX9_page_80
        · rw [if_neg g0] at h
          by_cases g1 : i2 = 1
          · rw [if_pos g1] at h
            have e : i2.toInt = 1 := by rw [g1]; rfl
            refine lv_tableIn hx hb dX9_page_42 (off := 39) (tgt := 81) (by rw [e]; decide) (by rw [e]; decide) (by rw [e]; rfl) (by decide) ?_
            refine lv_aload_n hx hb dX9_page_81 rfl (lv_at hl 0 rfl) ?_
            refine va_get (D := D) (ci := 9) (v := .ref aY.1) (C := RX9) (T := TX9) (N := 7) hx hb hts huX9 hown hK hP 0 rfl rfl 6 (by decide) (hts (.fieldLink RX9 54 "VerseColumns" "layout" "LVerseColumns$Layout;") (by decide +kernel)) (fun _ h9 => h9) rfl dX9_page_82 ?_
            refine lv_iload_n hx hb dX9_page_85 rfl (lv_at hl 1 rfl) ?_
            obtain ⟨q8, h7, h⟩ := Option.bind_eq_some_iff.mp h
            refine kcir [13, 14, 15, 16, 17] (va_runV (As := [.int i1]) (rest := []) ⟨hx, hb, hml, hown, hts⟩ (kX3_lastGroupOf l D cI cC cS aY vY0 vY1 vY2 vY3 q4.1 q4.2.1 q4.2.2.1 q4.2.2.2.1 q4.2.2.2.2.1 q4.2.2.2.2.2.1 q4.2.2.2.2.2.2 i1 H.size h7) (cwV 1 hts gX9_page_X3_lastGroupOf rfl rfl rfl (by decide +kernel) ⟨Nat.le_of_ble_eq_true rfl, Nat.le_of_ble_eq_true rfl⟩) (kpreV hK hN hP hD [13, 14, 15, 16, 17] rfl (by decide) 3 rfl rfl) rfl rfl hl.1 rfl (lv_room (Nat.le_of_ble_eq_true rfl)) dX9_page_86 ⟨Nat.le_refl _, Nat.le_refl _⟩) hP hD hS hA rfl (fun H locs hP hS => ?_)
            obtain rfl := Option.some.inj h
            exact W.iret (v := q8) hx hb hr (fun t ht hW => ⟨⟨_, (), rfl, rfl, by rw [ht]; exact hP, hD⟩, hS.F ht⟩) hS.2.2 dX9_page_89
          · rw [if_neg g1] at h
            by_cases g2 : i2 = 2
            · rw [if_pos g2] at h
              have e : i2.toInt = 2 := by rw [g2]; rfl
              refine lv_tableIn hx hb dX9_page_42 (off := 48) (tgt := 90) (by rw [e]; decide) (by rw [e]; decide) (by rw [e]; rfl) (by decide) ?_
              refine lv_aload_n hx hb dX9_page_90 rfl (lv_at hl 0 rfl) ?_
              refine va_get (D := D) (ci := 9) (v := .ref aY.1) (C := RX9) (T := TX9) (N := 7) hx hb hts huX9 hown hK hP 0 rfl rfl 6 (by decide) (hts (.fieldLink RX9 54 "VerseColumns" "layout" "LVerseColumns$Layout;") (by decide +kernel)) (fun _ h9 => h9) rfl dX9_page_91 ?_
              refine lv_iload_n hx hb dX9_page_94 rfl (lv_at hl 1 rfl) ?_
              obtain ⟨q10, h9, h⟩ := Option.bind_eq_some_iff.mp h
              refine kcir [13, 14, 15, 16, 17] (va_runV (As := [.int i1]) (rest := []) ⟨hx, hb, hml, hown, hts⟩ (kX3_heightSumOf l D cI cC cS aY vY0 vY1 vY2 vY3 q4.1 q4.2.1 q4.2.2.1 q4.2.2.2.1 q4.2.2.2.2.1 q4.2.2.2.2.2.1 q4.2.2.2.2.2.2 i1 H.size h9) (cwV 1 hts gX9_page_X3_heightSumOf rfl rfl rfl (by decide +kernel) ⟨Nat.le_of_ble_eq_true rfl, Nat.le_of_ble_eq_true rfl⟩) (kpreV hK hN hP hD [13, 14, 15, 16, 17] rfl (by decide) 3 rfl rfl) rfl rfl hl.1 rfl (lv_room (Nat.le_of_ble_eq_true rfl)) dX9_page_95 ⟨Nat.le_refl _, Nat.le_refl _⟩) hP hD hS hA rfl (fun H locs hP hS => ?_)
              obtain rfl := Option.some.inj h
              exact W.iret (v := q10) hx hb hr (fun t ht hW => ⟨⟨_, (), rfl, rfl, by rw [ht]; exact hP, hD⟩, hS.F ht⟩) hS.2.2 dX9_page_98
            · rw [if_neg g2] at h
              by_cases g3 : i2 = 3
              · rw [if_pos g3] at h
                have e : i2.toInt = 3 := by rw [g3]; rfl
                refine lv_tableIn hx hb dX9_page_42 (off := 57) (tgt := 99) (by rw [e]; decide) (by rw [e]; decide) (by rw [e]; rfl) (by decide) ?_
                refine lv_aload_n hx hb dX9_page_99 rfl (lv_at hl 0 rfl) ?_
                refine va_get (D := D) (ci := 9) (v := .ref aY.1) (C := RX9) (T := TX9) (N := 7) hx hb hts huX9 hown hK hP 0 rfl rfl 6 (by decide) (hts (.fieldLink RX9 54 "VerseColumns" "layout" "LVerseColumns$Layout;") (by decide +kernel)) (fun _ h9 => h9) rfl dX9_page_100 ?_
                refine lv_iload_n hx hb dX9_page_103 rfl (lv_at hl 1 rfl) ?_
                obtain ⟨q12, h11, h⟩ := Option.bind_eq_some_iff.mp h
                refine kcir [13, 14, 15, 16, 17] (va_runV (As := [.int i1]) (rest := []) ⟨hx, hb, hml, hown, hts⟩ (kX3_noteLinesOf l D cI cC cS aY vY0 vY1 vY2 vY3 q4.1 q4.2.1 q4.2.2.1 q4.2.2.2.1 q4.2.2.2.2.1 q4.2.2.2.2.2.1 q4.2.2.2.2.2.2 i1 H.size h11) (cwV 1 hts gX9_page_X3_noteLinesOf rfl rfl rfl (by decide +kernel) ⟨Nat.le_of_ble_eq_true rfl, Nat.le_of_ble_eq_true rfl⟩) (kpreV hK hN hP hD [13, 14, 15, 16, 17] rfl (by decide) 3 rfl rfl) rfl rfl hl.1 rfl (lv_room (Nat.le_of_ble_eq_true rfl)) dX9_page_104 ⟨Nat.le_refl _, Nat.le_refl _⟩) hP hD hS hA rfl (fun H locs hP hS => ?_)
                obtain rfl := Option.some.inj h
                exact W.iret (v := q12) hx hb hr (fun t ht hW => ⟨⟨_, (), rfl, rfl, by rw [ht]; exact hP, hD⟩, hS.F ht⟩) hS.2.2 dX9_page_107
              · rw [if_neg g3] at h
                have e0 := lv_neT (a := 0) g0 rfl
                have e1 := lv_neT (a := 1) g1 rfl
                have e2 := lv_neT (a := 2) g2 rfl
                have e3 := lv_neT (a := 3) g3 rfl
                refine lv_tableOut hx hb dX9_page_42 (tgt := 108) (by omega) (by decide) ?_
                refine lv_aload_n hx hb dX9_page_108 rfl (lv_at hl 0 rfl) ?_
                refine va_get (D := D) (ci := 9) (v := .ref aY.1) (C := RX9) (T := TX9) (N := 7) hx hb hts huX9 hown hK hP 0 rfl rfl 6 (by decide) (hts (.fieldLink RX9 54 "VerseColumns" "layout" "LVerseColumns$Layout;") (by decide +kernel)) (fun _ h9 => h9) rfl dX9_page_109 ?_
                refine lv_iload_n hx hb dX9_page_112 rfl (lv_at hl 1 rfl) ?_
                obtain ⟨q14, h13, h⟩ := Option.bind_eq_some_iff.mp h
                refine kcir [13, 14, 15, 16, 17] (va_runV (As := [.int i1]) (rest := []) ⟨hx, hb, hml, hown, hts⟩ (kX3_overflows l D cI cC cS aY vY0 vY1 vY2 vY3 q4.1 q4.2.1 q4.2.2.1 q4.2.2.2.1 q4.2.2.2.2.1 q4.2.2.2.2.2.1 q4.2.2.2.2.2.2 i1 H.size h13) (cwV 1 hts gX9_page_X3_overflows rfl rfl rfl (by decide +kernel) ⟨Nat.le_of_ble_eq_true rfl, Nat.le_of_ble_eq_true rfl⟩) (kpreV hK hN hP hD [13, 14, 15, 16, 17] rfl (by decide) 3 rfl rfl) rfl rfl hl.1 rfl (lv_room (Nat.le_of_ble_eq_true rfl)) dX9_page_113 ⟨Nat.le_refl _, Nat.le_refl _⟩) hP hD hS hA rfl (fun H locs hP hS => ?_)
                refine lv_if_eq (tgt := 123) hx hb dX9_page_116 (by decide) (fun g => ?_) (fun g => ?_)
                · rw [if_pos g] at h
                  refine lv_iconst (v := (0 : Int32)) hx hb dX9_page_123 (by decide) ?_
                  obtain rfl := Option.some.inj h
                  exact W.iret (v := (0 : Int32)) hx hb hr (fun t ht hW => ⟨⟨_, (), rfl, rfl, by rw [ht]; exact hP, hD⟩, hS.F ht⟩) hS.2.2 dX9_page_124
                · rw [if_neg g] at h
                  refine lv_iconst (v := (1 : Int32)) hx hb dX9_page_119 (by decide) ?_
                  refine lv_goto (tgt := 124) hx hb dX9_page_120 (by decide) ?_
                  obtain rfl := Option.some.inj h
                  exact W.iret (v := (1 : Int32)) hx hb hr (fun t ht hW => ⟨⟨_, (), rfl, rfl, by rw [ht]; exact hP, hD⟩, hS.F ht⟩) hS.2.2 dX9_page_124
      · rw [if_neg g] at h
        refine lv_bipush (v := (-5 : Int32)) hx hb dX9_page_38 (by decide) ?_
        obtain rfl := Option.some.inj h
        exact W.iret (v := (-5 : Int32)) hx hb hr (fun t ht hW => ⟨⟨_, (), rfl, rfl, by rw [ht]; exact hP, hD⟩, hS.F ht⟩) hS.2.2 dX9_page_40
    · rw [if_pos g] at h
      refine lv_bipush (v := (-2 : Int32)) hx hb dX9_page_13 (by decide) ?_
      obtain rfl := Option.some.inj h
      exact W.iret (v := (-2 : Int32)) hx hb hr (fun t ht hW => ⟨⟨_, (), rfl, rfl, by rw [ht]; exact hP, hD⟩, hS.F ht⟩) hS.2.2 dX9_page_15
set_option maxHeartbeats 8000000 in
set_option maxRecDepth 100000 in
theorem kX9_group (l : Launch) (D : va_G) (cI cC cS : ClassId) (aV : Nat) (xV1 : Nat) (xV2 : Nat) (xV3 : Nat) (xV4 : Nat) (xV5 : Nat) (aS : Nat) (aL : Nat × Nat × Nat × Nat) (vL0 : (Nat → Int32)) (vL1 : (Nat → Int32)) (vL2 : (Nat → Int32)) (vL3 : Int32) (aR : Nat × Nat × Nat × Nat) (vR0 : (Nat → Int32)) (vR1 : (Nat → Int32)) (vR2 : (Nat → Int32)) (vR3 : Int32) (aM : Nat × Nat × Nat) (vM0 : (Nat → Int32)) (vM1 : (Nat → Int32)) (vM2 : Int32) (aY : Nat × Nat × Nat × Nat × Nat) (vY0 : Int32) (vY1 : Int32) (vY2 : Int32) (vY3 : Int32) (vY4 : (Nat → Int32)) (vY5 : (Nat → Int32)) (vY6 : (Nat → Int32)) (vY7 : (Nat → Int32)) (vY8 : Int32) (vY9 : Int32) (vY10 : Int32) (i1 : Int32) (i2 : Int32) (sz : Nat) {q : Int32 × (Nat → Int32) × (Nat → Int32) × (Nat → Int32) × (Nat → Int32) × Int32 × Int32 × Int32} (h : pX9_group vL0 vL1 vL2 vL3 vR0 vR1 vR2 vR3 vM0 vM1 vM2 vY0 vY1 vY2 vY3 vY4 vY5 vY6 vY7 vY8 vY9 vY10 i1 i2 = some q) : kMi l yX9_group wsX9_group ({ frames := 6, cells := 0, slots := 0, locals := 138 } : Room) D (kTy cI cC cS) [.ref aV, .int i1, .int i2] (wVC aV aS xV1 xV2 xV3 xV4 xV5 aY.1 ++ (wSC aS aL.1 aR.1 aM.1 ++ (wBK cI aL vL0 vL1 vL2 vL3 ++ (wBK cI aR vR0 vR1 vR2 vR3 ++ (wMP cI aM vM0 vM1 vM2 ++ wLY cI aY vY0 vY1 vY2 vY3 vY4 vY5 vY6 vY7 vY8 vY9 vY10))))) sz q.1 (wVC aV aS xV1 xV2 xV3 xV4 xV5 aY.1 ++ (wSC aS aL.1 aR.1 aM.1 ++ (wBK cI aL vL0 vL1 vL2 vL3 ++ (wBK cI aR vR0 vR1 vR2 vR3 ++ (wMP cI aM vM0 vM1 vM2 ++ wLY cI aY vY0 vY1 vY2 vY3 q.2.1 q.2.2.1 q.2.2.2.1 q.2.2.2.2.1 q.2.2.2.2.2.1 q.2.2.2.2.2.2.1 q.2.2.2.2.2.2.2))))) := by
  refine Met.ofW (cc := cX9_group) (maxL := 3) (ret := (some .int)) (by decide) rfl ?_
  intro p e s m args below meth c s₁ B hml hv
  obtain ⟨rfl, hsz, hP, hK, hD0, hN⟩ := hv
  have hx := B.exec
  have hb := B.bytes
  have hr := B.returns
  have hts := atoms_spec (ws := wsX9_group) B.pre
  have hown : s.vm.findClass RX9 = some m.cls := findClass_of_methodNamed B.named
  have hlocks := B.notSynchronized
  subst hsz
  have hD := hD0.self (sz := s.heap.size)
  generalize hAe : va_A (wVC aV aS xV1 xV2 xV3 xV4 xV5 aY.1 ++ (wSC aS aL.1 aR.1 aM.1 ++ (wBK cI aL vL0 vL1 vL2 vL3 ++ (wBK cI aR vR0 vR1 vR2 vR3 ++ (wMP cI aM vM0 vM1 vM2 ++ wLY cI aY vY0 vY1 vY2 vY3 vY4 vY5 vY6 vY7 vY8 vY9 vY10))))) s.heap.size = A at hD ⊢
  have hA : ∀ q : Nat, s.heap.size ≤ q → A q := fun q h => by rw [← hAe]; exact Or.inr h
  have hS : va_S A s.heap s.heap [] := va_S.rf
  have huX7 : ∀ w ∈ u_ws RX7 TX7 3, w ∈ wsX9_group := by decide +kernel
  have huX9 : ∀ w ∈ u_ws RX9 TX9 7, w ∈ wsX9_group := by decide +kernel
  have hl := lv_entry ([.ref aV, .int i1, .int i2]) (n := 3) (Nat.le_of_ble_eq_true rfl)
  rw [lg_entry_eq]
  generalize (lg_sl ([.ref aV, .int i1, .int i2]) ++ List.replicate (3 - (lg_sl ([.ref aV, .int i1, .int i2])).length) Slot.unset).toArray = ls at hl ⊢
  have hl : lv_has ls 3 [(0, .ref aV), (1, .int i1), (2, .int i2)] := hl
  have j45 : ∀ (c5_4 : (Nat → Int32)) (c5_5 : (Nat → Int32)) (c5_6 : (Nat → Int32)) (c5_7 : (Nat → Int32)) (c5_8 : Int32) (c5_9 : Int32) (c5_10 : Int32) (y1 : Int32) (y2 : Int32) (H : Heap) (locs : List Loc) (ls : Array Slot), pX9_group_j45 vL0 vL1 vL2 vL3 vR0 vR1 vR2 vR3 vM0 vM1 vM2 vY0 vY1 vY2 vY3 c5_4 c5_5 c5_6 c5_7 c5_8 c5_9 c5_10 y1 y2 = some q → va_P D vwCl (wVC aV aS xV1 xV2 xV3 xV4 xV5 aY.1 ++ (wSC aS aL.1 aR.1 aM.1 ++ (wBK cI aL vL0 vL1 vL2 vL3 ++ (wBK cI aR vR0 vR1 vR2 vR3 ++ (wMP cI aM vM0 vM1 vM2 ++ wLY cI aY vY0 vY1 vY2 vY3 c5_4 c5_5 c5_6 c5_7 c5_8 c5_9 c5_10))))) H → va_D A (wVC aV aS xV1 xV2 xV3 xV4 xV5 aY.1 ++ (wSC aS aL.1 aR.1 aM.1 ++ (wBK cI aL vL0 vL1 vL2 vL3 ++ (wBK cI aR vR0 vR1 vR2 vR3 ++ (wMP cI aM vM0 vM1 vM2 ++ wLY cI aY vY0 vY1 vY2 vY3 c5_4 c5_5 c5_6 c5_7 c5_8 c5_9 c5_10))))) → va_S A s.heap H locs → lv_has ls 3 [(0, .ref aV), (1, .int y1), (2, .int y2)] → W p l e ({ frames := 6, cells := 0, slots := 0, locals := 138 } : Room) s m ([.ref aV, .int i1, .int i2] : List Value).toArray below meth c H locs 0 0 (MQ below (va_Qi (fun (r : Int32) (_ : Unit) => r = q.1) (fun _ => kPost D (wVC aV aS xV1 xV2 xV3 xV4 xV5 aY.1 ++ (wSC aS aL.1 aR.1 aM.1 ++ (wBK cI aL vL0 vL1 vL2 vL3 ++ (wBK cI aR vR0 vR1 vR2 vR3 ++ (wMP cI aM vM0 vM1 vM2 ++ wLY cI aY vY0 vY1 vY2 vY3 q.2.1 q.2.2.1 q.2.2.2.1 q.2.2.2.2.1 q.2.2.2.2.2.1 q.2.2.2.2.2.2.1 q.2.2.2.2.2.2.2))))) A) A) ([.ref aV, .int i1, .int i2] : List Value).toArray s 0 0 A) (F0 m 45 ls []) := by
    clear h hP hD hS hl
    intro c5_4 c5_5 c5_6 c5_7 c5_8 c5_9 c5_10 y1 y2 H locs ls h hP hD hS hl
    unfold pX9_group_j45 at h
    refine lv_iload_n hx hb dX9_group_45 rfl (lv_at hl 2 rfl) ?_
    by_cases g0 : y2 = 0
    · rw [if_pos g0] at h
      have e : y2.toInt = 0 := by rw [g0]; rfl
      refine lv_tableIn hx hb dX9_group_46 (off := 46) (tgt := 92) (by rw [e]; decide) (by rw [e]; decide) (by rw [e]; rfl) (by decide) ?_
      refine lv_aload_n hx hb dX9_group_92 rfl (lv_at hl 0 rfl) ?_
      refine va_get (D := D) (ci := 9) (v := .ref aS) (C := RX9) (T := TX9) (N := 7) hx hb hts huX9 hown hK hP 0 rfl rfl 0 (by decide) (hts (.fieldLink RX9 12 "VerseColumns" "state" "LVerseColumns$State;") (by decide +kernel)) (fun _ h9 => h9) rfl dX9_group_93 ?_
      refine va_getN (D := D) (ci := 7) (v := .ref aM.1) (C := RX7) (T := TX7) (N := 3) hx hb hts huX7 hown hK hP 1 rfl rfl 2 (by decide) (hN.f 11 rfl) (fun _ h9 => h9) rfl dX9_group_96 ?_
      refine lv_iload_n hx hb dX9_group_99 rfl (lv_at hl 1 rfl) ?_
      obtain ⟨q6, h5, h⟩ := Option.bind_eq_some_iff.mp h
      refine kcir [10, 11, 12] (va_runV (As := [.int y1]) (rest := []) ⟨hx, hb, hml, hown, hts⟩ (kX1_kindOf l D cI cC cS aM vM0 vM1 vM2 y1 H.size h5) (cwV 1 hts gX9_group_X1_kindOf rfl rfl rfl (by decide +kernel) ⟨Nat.le_of_ble_eq_true rfl, Nat.le_of_ble_eq_true rfl⟩) (kpreV hK hN hP hD [10, 11, 12] rfl (by decide) 1 rfl rfl) rfl rfl hl.1 rfl (lv_room (Nat.le_of_ble_eq_true rfl)) dX9_group_100 ⟨Nat.le_refl _, Nat.le_refl _⟩) hP hD hS hA rfl (fun H locs hP hS => ?_)
      obtain rfl := Option.some.inj h
      exact W.iret (v := q6) hx hb hr (fun t ht hW => ⟨⟨_, (), rfl, rfl, by rw [ht]; exact hP, hD⟩, hS.F ht⟩) hS.2.2 dX9_group_103
    · rw [if_neg g0] at h
      by_cases g1 : y2 = 1
      · rw [if_pos g1] at h
        have e : y2.toInt = 1 := by rw [g1]; rfl
        refine lv_tableIn hx hb dX9_group_46 (off := 58) (tgt := 104) (by rw [e]; decide) (by rw [e]; decide) (by rw [e]; rfl) (by decide) ?_
        refine lv_aload_n hx hb dX9_group_104 rfl (lv_at hl 0 rfl) ?_
        refine lv_iload_n hx hb dX9_group_105 rfl (lv_at hl 1 rfl) ?_
        refine lv_iconst (v := (0 : Int32)) hx hb dX9_group_106 (by decide) ?_
        obtain ⟨q8, h7, h⟩ := Option.bind_eq_some_iff.mp h
        refine kcir [0, 1, 10, 11, 12] (va_runV (As := [.int y1, .int (0 : Int32)]) (rest := []) ⟨hx, hb, hml, hown, hts⟩ (kX9_firstVerseOrNone l D cI cC cS aV xV1 xV2 xV3 xV4 xV5 aY.1 aS aL.1 aR.1 aM vM0 vM1 vM2 y1 (0 : Int32) H.size h7) (cwV 2 hts gX9_group_X9_firstVerseOrNone rfl rfl rfl (by decide +kernel) ⟨Nat.le_of_ble_eq_true rfl, Nat.le_of_ble_eq_true rfl⟩) (kpreV hK hN hP hD [0, 1, 10, 11, 12] rfl (by decide) 9 rfl rfl) rfl rfl hl.1 rfl (lv_room (Nat.le_of_ble_eq_true rfl)) dX9_group_107 ⟨Nat.le_refl _, Nat.le_refl _⟩) hP hD hS hA rfl (fun H locs hP hS => ?_)
        obtain rfl := Option.some.inj h
        exact W.iret (v := q8) hx hb hr (fun t ht hW => ⟨⟨_, (), rfl, rfl, by rw [ht]; exact hP, hD⟩, hS.F ht⟩) hS.2.2 dX9_group_110
      · rw [if_neg g1] at h
        by_cases g2 : y2 = 2
        · rw [if_pos g2] at h
          have e : y2.toInt = 2 := by rw [g2]; rfl
          refine lv_tableIn hx hb dX9_group_46 (off := 65) (tgt := 111) (by rw [e]; decide) (by rw [e]; decide) (by rw [e]; rfl) (by decide) ?_
          refine lv_aload_n hx hb dX9_group_111 rfl (lv_at hl 0 rfl) ?_
          refine va_get (D := D) (ci := 9) (v := .ref aS) (C := RX9) (T := TX9) (N := 7) hx hb hts huX9 hown hK hP 0 rfl rfl 0 (by decide) (hts (.fieldLink RX9 12 "VerseColumns" "state" "LVerseColumns$State;") (by decide +kernel)) (fun _ h9 => h9) rfl dX9_group_112 ?_
          refine va_getN (D := D) (ci := 7) (v := .ref aM.1) (C := RX7) (T := TX7) (N := 3) hx hb hts huX7 hown hK hP 1 rfl rfl 2 (by decide) (hN.f 11 rfl) (fun _ h9 => h9) rfl dX9_group_115 ?_
          refine lv_iload_n hx hb dX9_group_118 rfl (lv_at hl 1 rfl) ?_
          refine lv_iconst (v := (0 : Int32)) hx hb dX9_group_119 (by decide) ?_
          obtain ⟨q10, h9, h⟩ := Option.bind_eq_some_iff.mp h
          refine kcir [10, 11, 12] (va_runV (As := [.int y1, .int (0 : Int32)]) (rest := []) ⟨hx, hb, hml, hown, hts⟩ (kX1_sizeOf l D cI cC cS aM vM0 vM1 vM2 y1 (0 : Int32) H.size h9) (cwV 2 hts gX9_group_X1_sizeOf rfl rfl rfl (by decide +kernel) ⟨Nat.le_of_ble_eq_true rfl, Nat.le_of_ble_eq_true rfl⟩) (kpreV hK hN hP hD [10, 11, 12] rfl (by decide) 1 rfl rfl) rfl rfl hl.1 rfl (lv_room (Nat.le_of_ble_eq_true rfl)) dX9_group_120 ⟨Nat.le_refl _, Nat.le_refl _⟩) hP hD hS hA rfl (fun H locs hP hS => ?_)
          obtain rfl := Option.some.inj h
          exact W.iret (v := q10) hx hb hr (fun t ht hW => ⟨⟨_, (), rfl, rfl, by rw [ht]; exact hP, hD⟩, hS.F ht⟩) hS.2.2 dX9_group_123
        · rw [if_neg g2] at h
          by_cases g3 : y2 = 3
          · rw [if_pos g3] at h
            have e : y2.toInt = 3 := by rw [g3]; rfl
            refine lv_tableIn hx hb dX9_group_46 (off := 78) (tgt := 124) (by rw [e]; decide) (by rw [e]; decide) (by rw [e]; rfl) (by decide) ?_
            refine lv_aload_n hx hb dX9_group_124 rfl (lv_at hl 0 rfl) ?_
            refine lv_iload_n hx hb dX9_group_125 rfl (lv_at hl 1 rfl) ?_
            refine lv_iconst (v := (1 : Int32)) hx hb dX9_group_126 (by decide) ?_
            obtain ⟨q12, h11, h⟩ := Option.bind_eq_some_iff.mp h
            refine kcir [0, 1, 10, 11, 12] (va_runV (As := [.int y1, .int (1 : Int32)]) (rest := []) ⟨hx, hb, hml, hown, hts⟩ (kX9_firstVerseOrNone l D cI cC cS aV xV1 xV2 xV3 xV4 xV5 aY.1 aS aL.1 aR.1 aM vM0 vM1 vM2 y1 (1 : Int32) H.size h11) (cwV 2 hts gX9_group_X9_firstVerseOrNone rfl rfl rfl (by decide +kernel) ⟨Nat.le_of_ble_eq_true rfl, Nat.le_of_ble_eq_true rfl⟩) (kpreV hK hN hP hD [0, 1, 10, 11, 12] rfl (by decide) 9 rfl rfl) rfl rfl hl.1 rfl (lv_room (Nat.le_of_ble_eq_true rfl)) dX9_group_127 ⟨Nat.le_refl _, Nat.le_refl _⟩) hP hD hS hA rfl (fun H locs hP hS => ?_)
            obtain rfl := Option.some.inj h
            exact W.iret (v := q12) hx hb hr (fun t ht hW => ⟨⟨_, (), rfl, rfl, by rw [ht]; exact hP, hD⟩, hS.F ht⟩) hS.2.2 dX9_group_130
          · rw [if_neg g3] at h
            by_cases g4 : y2 = 4
            · rw [if_pos g4] at h
              have e : y2.toInt = 4 := by rw [g4]; rfl
              refine lv_tableIn hx hb dX9_group_46 (off := 85) (tgt := 131) (by rw [e]; decide) (by rw [e]; decide) (by rw [e]; rfl) (by decide) ?_
              refine lv_aload_n hx hb dX9_group_131 rfl (lv_at hl 0 rfl) ?_
              refine va_get (D := D) (ci := 9) (v := .ref aS) (C := RX9) (T := TX9) (N := 7) hx hb hts huX9 hown hK hP 0 rfl rfl 0 (by decide) (hts (.fieldLink RX9 12 "VerseColumns" "state" "LVerseColumns$State;") (by decide +kernel)) (fun _ h9 => h9) rfl dX9_group_132 ?_
              refine va_getN (D := D) (ci := 7) (v := .ref aM.1) (C := RX7) (T := TX7) (N := 3) hx hb hts huX7 hown hK hP 1 rfl rfl 2 (by decide) (hN.f 11 rfl) (fun _ h9 => h9) rfl dX9_group_135 ?_
              refine lv_iload_n hx hb dX9_group_138 rfl (lv_at hl 1 rfl) ?_
              refine lv_iconst (v := (1 : Int32)) hx hb dX9_group_139 (by decide) ?_
              obtain ⟨q14, h13, h⟩ := Option.bind_eq_some_iff.mp h
              refine kcir [10, 11, 12] (va_runV (As := [.int y1, .int (1 : Int32)]) (rest := []) ⟨hx, hb, hml, hown, hts⟩ (kX1_sizeOf l D cI cC cS aM vM0 vM1 vM2 y1 (1 : Int32) H.size h13) (cwV 2 hts gX9_group_X1_sizeOf rfl rfl rfl (by decide +kernel) ⟨Nat.le_of_ble_eq_true rfl, Nat.le_of_ble_eq_true rfl⟩) (kpreV hK hN hP hD [10, 11, 12] rfl (by decide) 1 rfl rfl) rfl rfl hl.1 rfl (lv_room (Nat.le_of_ble_eq_true rfl)) dX9_group_140 ⟨Nat.le_refl _, Nat.le_refl _⟩) hP hD hS hA rfl (fun H locs hP hS => ?_)
              obtain rfl := Option.some.inj h
              exact W.iret (v := q14) hx hb hr (fun t ht hW => ⟨⟨_, (), rfl, rfl, by rw [ht]; exact hP, hD⟩, hS.F ht⟩) hS.2.2 dX9_group_143
            · rw [if_neg g4] at h
              by_cases g5 : y2 = 5
              · rw [if_pos g5] at h
                have e : y2.toInt = 5 := by rw [g5]; rfl
                refine lv_tableIn hx hb dX9_group_46 (off := 98) (tgt := 144) (by rw [e]; decide) (by rw [e]; decide) (by rw [e]; rfl) (by decide) ?_
                refine lv_aload_n hx hb dX9_group_144 rfl (lv_at hl 0 rfl) ?_
                refine va_get (D := D) (ci := 9) (v := .ref aY.1) (C := RX9) (T := TX9) (N := 7) hx hb hts huX9 hown hK hP 0 rfl rfl 6 (by decide) (hts (.fieldLink RX9 54 "VerseColumns" "layout" "LVerseColumns$Layout;") (by decide +kernel)) (fun _ h9 => h9) rfl dX9_group_145 ?_
                refine lv_iload_n hx hb dX9_group_148 rfl (lv_at hl 1 rfl) ?_
                obtain ⟨q16, h15, h⟩ := Option.bind_eq_some_iff.mp h
                refine kcir [13, 14, 15, 16, 17] (va_runV (As := [.int y1]) (rest := []) ⟨hx, hb, hml, hown, hts⟩ (kX3_heightOf l D cI cC cS aY vY0 vY1 vY2 vY3 c5_4 c5_5 c5_6 c5_7 c5_8 c5_9 c5_10 y1 H.size h15) (cwV 1 hts gX9_group_X3_heightOf rfl rfl rfl (by decide +kernel) ⟨Nat.le_of_ble_eq_true rfl, Nat.le_of_ble_eq_true rfl⟩) (kpreV hK hN hP hD [13, 14, 15, 16, 17] rfl (by decide) 3 rfl rfl) rfl rfl hl.1 rfl (lv_room (Nat.le_of_ble_eq_true rfl)) dX9_group_149 ⟨Nat.le_refl _, Nat.le_refl _⟩) hP hD hS hA rfl (fun H locs hP hS => ?_)
                obtain rfl := Option.some.inj h
                exact W.iret (v := q16) hx hb hr (fun t ht hW => ⟨⟨_, (), rfl, rfl, by rw [ht]; exact hP, hD⟩, hS.F ht⟩) hS.2.2 dX9_group_152
              · rw [if_neg g5] at h
                by_cases g6 : y2 = 6
                · rw [if_pos g6] at h
                  have e : y2.toInt = 6 := by rw [g6]; rfl
                  refine lv_tableIn hx hb dX9_group_46 (off := 107) (tgt := 153) (by rw [e]; decide) (by rw [e]; decide) (by rw [e]; rfl) (by decide) ?_
                  refine lv_aload_n hx hb dX9_group_153 rfl (lv_at hl 0 rfl) ?_
                  refine va_get (D := D) (ci := 9) (v := .ref aY.1) (C := RX9) (T := TX9) (N := 7) hx hb hts huX9 hown hK hP 0 rfl rfl 6 (by decide) (hts (.fieldLink RX9 54 "VerseColumns" "layout" "LVerseColumns$Layout;") (by decide +kernel)) (fun _ h9 => h9) rfl dX9_group_154 ?_
                  refine lv_iload_n hx hb dX9_group_157 rfl (lv_at hl 1 rfl) ?_
                  obtain ⟨q18, h17, h⟩ := Option.bind_eq_some_iff.mp h
                  refine kcir [13, 14, 15, 16, 17] (va_runV (As := [.int y1]) (rest := []) ⟨hx, hb, hml, hown, hts⟩ (kX3_pageOf l D cI cC cS aY vY0 vY1 vY2 vY3 c5_4 c5_5 c5_6 c5_7 c5_8 c5_9 c5_10 y1 H.size h17) (cwV 1 hts gX9_group_X3_pageOf rfl rfl rfl (by decide +kernel) ⟨Nat.le_of_ble_eq_true rfl, Nat.le_of_ble_eq_true rfl⟩) (kpreV hK hN hP hD [13, 14, 15, 16, 17] rfl (by decide) 3 rfl rfl) rfl rfl hl.1 rfl (lv_room (Nat.le_of_ble_eq_true rfl)) dX9_group_158 ⟨Nat.le_refl _, Nat.le_refl _⟩) hP hD hS hA rfl (fun H locs hP hS => ?_)
                  obtain rfl := Option.some.inj h
                  exact W.iret (v := q18) hx hb hr (fun t ht hW => ⟨⟨_, (), rfl, rfl, by rw [ht]; exact hP, hD⟩, hS.F ht⟩) hS.2.2 dX9_group_161
                · rw [if_neg g6] at h
                  by_cases g7 : y2 = 7
                  · rw [if_pos g7] at h
                    have e : y2.toInt = 7 := by rw [g7]; rfl
                    refine lv_tableIn hx hb dX9_group_46 (off := 116) (tgt := 162) (by rw [e]; decide) (by rw [e]; decide) (by rw [e]; rfl) (by decide) ?_
                    refine lv_aload_n hx hb dX9_group_162 rfl (lv_at hl 0 rfl) ?_
                    refine va_get (D := D) (ci := 9) (v := .ref aY.1) (C := RX9) (T := TX9) (N := 7) hx hb hts huX9 hown hK hP 0 rfl rfl 6 (by decide) (hts (.fieldLink RX9 54 "VerseColumns" "layout" "LVerseColumns$Layout;") (by decide +kernel)) (fun _ h9 => h9) rfl dX9_group_163 ?_
                    refine lv_iload_n hx hb dX9_group_166 rfl (lv_at hl 1 rfl) ?_
                    obtain ⟨q20, h19, h⟩ := Option.bind_eq_some_iff.mp h
                    refine kcir [13, 14, 15, 16, 17] (va_runV (As := [.int y1]) (rest := []) ⟨hx, hb, hml, hown, hts⟩ (kX3_lineOf l D cI cC cS aY vY0 vY1 vY2 vY3 c5_4 c5_5 c5_6 c5_7 c5_8 c5_9 c5_10 y1 H.size h19) (cwV 1 hts gX9_group_X3_lineOf rfl rfl rfl (by decide +kernel) ⟨Nat.le_of_ble_eq_true rfl, Nat.le_of_ble_eq_true rfl⟩) (kpreV hK hN hP hD [13, 14, 15, 16, 17] rfl (by decide) 3 rfl rfl) rfl rfl hl.1 rfl (lv_room (Nat.le_of_ble_eq_true rfl)) dX9_group_167 ⟨Nat.le_refl _, Nat.le_refl _⟩) hP hD hS hA rfl (fun H locs hP hS => ?_)
                    obtain rfl := Option.some.inj h
                    exact W.iret (v := q20) hx hb hr (fun t ht hW => ⟨⟨_, (), rfl, rfl, by rw [ht]; exact hP, hD⟩, hS.F ht⟩) hS.2.2 dX9_group_170
                  · rw [if_neg g7] at h
                    have e0 := lv_neT (a := 0) g0 rfl
                    have e1 := lv_neT (a := 1) g1 rfl
                    have e2 := lv_neT (a := 2) g2 rfl
                    have e3 := lv_neT (a := 3) g3 rfl
                    have e4 := lv_neT (a := 4) g4 rfl
                    have e5 := lv_neT (a := 5) g5 rfl
                    have e6 := lv_neT (a := 6) g6 rfl
                    have e7 := lv_neT (a := 7) g7 rfl
                    refine lv_tableOut hx hb dX9_group_46 (tgt := 171) (by omega) (by decide) ?_
                    refine lv_aload_n hx hb dX9_group_171 rfl (lv_at hl 0 rfl) ?_
                    refine va_get (D := D) (ci := 9) (v := .ref aY.1) (C := RX9) (T := TX9) (N := 7) hx hb hts huX9 hown hK hP 0 rfl rfl 6 (by decide) (hts (.fieldLink RX9 54 "VerseColumns" "layout" "LVerseColumns$Layout;") (by decide +kernel)) (fun _ h9 => h9) rfl dX9_group_172 ?_
                    refine lv_iload_n hx hb dX9_group_175 rfl (lv_at hl 1 rfl) ?_
                    obtain ⟨q22, h21, h⟩ := Option.bind_eq_some_iff.mp h
                    refine kcir [13, 14, 15, 16, 17] (va_runV (As := [.int y1]) (rest := []) ⟨hx, hb, hml, hown, hts⟩ (kX3_notesOf l D cI cC cS aY vY0 vY1 vY2 vY3 c5_4 c5_5 c5_6 c5_7 c5_8 c5_9 c5_10 y1 H.size h21) (cwV 1 hts gX9_group_X3_notesOf rfl rfl rfl (by decide +kernel) ⟨Nat.le_of_ble_eq_true rfl, Nat.le_of_ble_eq_true rfl⟩) (kpreV hK hN hP hD [13, 14, 15, 16, 17] rfl (by decide) 3 rfl rfl) rfl rfl hl.1 rfl (lv_room (Nat.le_of_ble_eq_true rfl)) dX9_group_176 ⟨Nat.le_refl _, Nat.le_refl _⟩) hP hD hS hA rfl (fun H locs hP hS => ?_)
                    obtain rfl := Option.some.inj h
                    exact W.iret (v := q22) hx hb hr (fun t ht hW => ⟨⟨_, (), rfl, rfl, by rw [ht]; exact hP, hD⟩, hS.F ht⟩) hS.2.2 dX9_group_179
  unfold pX9_group at h
  refine lv_aload_n hx hb dX9_group_0 rfl (lv_at hl 0 rfl) ?_
  refine va_get (D := D) (ci := 9) (v := .ref aS) (C := RX9) (T := TX9) (N := 7) hx hb hts huX9 hown hK hP 0 rfl rfl 0 (by decide) (hts (.fieldLink RX9 12 "VerseColumns" "state" "LVerseColumns$State;") (by decide +kernel)) (fun _ h9 => h9) rfl dX9_group_1 ?_
  refine va_getN (D := D) (ci := 7) (v := .ref aM.1) (C := RX7) (T := TX7) (N := 3) hx hb hts huX7 hown hK hP 1 rfl rfl 2 (by decide) (hN.f 11 rfl) (fun _ h9 => h9) rfl dX9_group_4 ?_
  refine lv_iload_n hx hb dX9_group_7 rfl (lv_at hl 1 rfl) ?_
  obtain ⟨q2, h1, h⟩ := Option.bind_eq_some_iff.mp h
  refine kcir [10, 11, 12] (va_runV (As := [.int i1]) (rest := []) ⟨hx, hb, hml, hown, hts⟩ (kX1_has l D cI cC cS aM vM0 vM1 vM2 i1 s.heap.size h1) (cwV 1 hts gX9_group_X1_has rfl rfl rfl (by decide +kernel) ⟨Nat.le_of_ble_eq_true rfl, Nat.le_of_ble_eq_true rfl⟩) (kpreV hK hN hP hD [10, 11, 12] rfl (by decide) 1 rfl rfl) rfl rfl hl.1 rfl (lv_room (Nat.le_of_ble_eq_true rfl)) dX9_group_8 ⟨Nat.le_refl _, Nat.le_refl _⟩) hP hD hS hA rfl (fun H locs hP hS => ?_)
  refine lv_if_ne (tgt := 16) hx hb dX9_group_11 (by decide) (fun g => ?_) (fun g => ?_)
  · rw [if_neg g] at h
    refine lv_iload_n hx hb dX9_group_16 rfl (lv_at hl 2 rfl) ?_
    refine lv_iconst (v := (0 : Int32)) hx hb dX9_group_17 (by decide) ?_
    refine lv_bipush (v := (8 : Int32)) hx hb dX9_group_18 (by decide) ?_
    obtain ⟨q4, h3, h⟩ := Option.bind_eq_some_iff.mp h
    refine kcir [] (va_runS (As := [.int i2, .int (0 : Int32), .int (8 : Int32)]) (rest := []) ⟨hx, hb, hml, hown, hts⟩ (kX9_isWithin l D cI cC cS i2 (0 : Int32) (8 : Int32) H.size h3) (cwS 3 hts gX9_group_X9_isWithin rfl rfl rfl (by decide +kernel) ⟨Nat.le_of_ble_eq_true rfl, Nat.le_of_ble_eq_true rfl⟩) (kpre hK hN hP hD [] rfl (by decide)) rfl rfl hl.1 rfl (lv_room (Nat.le_of_ble_eq_true rfl)) dX9_group_20 ⟨Nat.le_refl _, Nat.le_refl _⟩) hP hD hS hA rfl (fun H locs hP hS => ?_)
    refine lv_if_ne (tgt := 29) hx hb dX9_group_23 (by decide) (fun g => ?_) (fun g => ?_)
    · rw [if_neg g] at h
      refine lv_iload_n hx hb dX9_group_29 rfl (lv_at hl 2 rfl) ?_
      refine lv_iconst (v := (5 : Int32)) hx hb dX9_group_30 (by decide) ?_
      refine lv_icmp_lt (tgt := 45) hx hb dX9_group_31 (by decide) (fun g => ?_) (fun g => ?_)
      · rw [if_pos g] at h
        exact j45 vY4 vY5 vY6 vY7 vY8 vY9 vY10 i1 i2 _ _ _ h hP hD hS (lv_sub hl [0, 1, 2] rfl)
      · rw [if_neg g] at h
        refine lv_aload_n hx hb dX9_group_34 rfl (lv_at hl 0 rfl) ?_
        refine va_get (D := D) (ci := 9) (v := .ref aY.1) (C := RX9) (T := TX9) (N := 7) hx hb hts huX9 hown hK hP 0 rfl rfl 6 (by decide) (hts (.fieldLink RX9 54 "VerseColumns" "layout" "LVerseColumns$Layout;") (by decide +kernel)) (fun _ h9 => h9) rfl dX9_group_35 ?_
        refine lv_aload_n hx hb dX9_group_38 rfl (lv_at hl 0 rfl) ?_
        refine va_get (D := D) (ci := 9) (v := .ref aS) (C := RX9) (T := TX9) (N := 7) hx hb hts huX9 hown hK hP 0 rfl rfl 0 (by decide) (hts (.fieldLink RX9 12 "VerseColumns" "state" "LVerseColumns$State;") (by decide +kernel)) (fun _ h9 => h9) rfl dX9_group_39 ?_
        obtain ⟨q24, h23, h⟩ := Option.bind_eq_some_iff.mp h
        refine kcvw (ws' := (wVC aV aS xV1 xV2 xV3 xV4 xV5 aY.1 ++ (wSC aS aL.1 aR.1 aM.1 ++ (wBK cI aL vL0 vL1 vL2 vL3 ++ (wBK cI aR vR0 vR1 vR2 vR3 ++ (wMP cI aM vM0 vM1 vM2 ++ wLY cI aY vY0 vY1 vY2 vY3 q24.1 q24.2.1 q24.2.2.1 q24.2.2.2.1 q24.2.2.2.2.1 q24.2.2.2.2.2.1 q24.2.2.2.2.2.2)))))) [13, 14, 15, 16, 17, 1, 2, 3, 4, 5, 6, 7, 8, 9, 10, 11, 12] (va_runV (As := [.ref aS]) (rest := []) ⟨hx, hb, hml, hown, hts⟩ (kX3_arrange l D cI cC cS aY vY0 vY1 vY2 vY3 vY4 vY5 vY6 vY7 vY8 vY9 vY10 aS aL vL0 vL1 vL2 vL3 aR vR0 vR1 vR2 vR3 aM vM0 vM1 vM2 H.size h23) (cwV 1 hts gX9_group_X3_arrange rfl rfl rfl (by decide +kernel) ⟨Nat.le_of_ble_eq_true rfl, Nat.le_of_ble_eq_true rfl⟩) (kpreV hK hN hP hD [13, 14, 15, 16, 17, 1, 2, 3, 4, 5, 6, 7, 8, 9, 10, 11, 12] rfl (by decide +kernel) 3 rfl rfl) rfl rfl hl.1 rfl (lv_room (Nat.le_of_ble_eq_true rfl)) dX9_group_42 ⟨Nat.le_refl _, Nat.le_refl _⟩) hP hD hS hA rfl (by decide +kernel) rfl [0, 6, 7, 8, 9, 10, 11, 12, 13, 14, 15, 16, 17, 1, 2, 3, 4, 5] (by decide +kernel) rfl (fun H locs hP hD hS => ?_)
        exact j45 q24.1 q24.2.1 q24.2.2.1 q24.2.2.2.1 q24.2.2.2.2.1 q24.2.2.2.2.2.1 q24.2.2.2.2.2.2 i1 i2 _ _ _ h hP hD hS (lv_sub hl [0, 1, 2] rfl)
    · rw [if_pos g] at h
      refine lv_bipush (v := (-2 : Int32)) hx hb dX9_group_26 (by decide) ?_
      obtain rfl := Option.some.inj h
      exact W.iret (v := (-2 : Int32)) hx hb hr (fun t ht hW => ⟨⟨_, (), rfl, rfl, by rw [ht]; exact hP, hD⟩, hS.F ht⟩) hS.2.2 dX9_group_28
  · rw [if_pos g] at h
    refine lv_iconst (v := (-1 : Int32)) hx hb dX9_group_14 (by decide) ?_
    obtain rfl := Option.some.inj h
    exact W.iret (v := (-1 : Int32)) hx hb hr (fun t ht hW => ⟨⟨_, (), rfl, rfl, by rw [ht]; exact hP, hD⟩, hS.F ht⟩) hS.2.2 dX9_group_15
