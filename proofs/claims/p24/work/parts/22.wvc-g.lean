-- walks: vc (printed by wip/whole/gen)
set_option maxHeartbeats 8000000 in
set_option maxRecDepth 100000 in
theorem kX9_chapter (l : Launch) (D : va_G) (cI cC cS : ClassId) (aV : Nat) (xV1 : Nat) (xV2 : Nat) (xV3 : Nat) (xV4 : Nat) (xV5 : Nat) (xV6 : Nat) (aS : Nat) (xS2 : Nat) (aL : Nat × Nat × Nat × Nat) (vL0 : (Nat → Int32)) (vL1 : (Nat → Int32)) (vL2 : (Nat → Int32)) (vL3 : Int32) (aR : Nat × Nat × Nat × Nat) (vR0 : (Nat → Int32)) (vR1 : (Nat → Int32)) (vR2 : (Nat → Int32)) (vR3 : Int32) (i1 : Int32) (i2 : Int32) (i3 : Int32) (sz : Nat) {q : Int32} (h : pX9_chapter vL0 vL1 vL3 vR0 vR1 vR3 i1 i2 i3 = some q) : kMi l yX9_chapter wsX9_chapter ({ frames := 3, cells := 0, slots := 0, locals := 62 } : Room) D (kTy cI cC cS) [.ref aV, .int i1, .int i2, .int i3] (wVC aV aS xV1 xV2 xV3 xV4 xV5 xV6 ++ (wSC aS aL.1 aR.1 xS2 ++ (wBK cI aL vL0 vL1 vL2 vL3 ++ wBK cI aR vR0 vR1 vR2 vR3))) sz q (wVC aV aS xV1 xV2 xV3 xV4 xV5 xV6 ++ (wSC aS aL.1 aR.1 xS2 ++ (wBK cI aL vL0 vL1 vL2 vL3 ++ wBK cI aR vR0 vR1 vR2 vR3))) := by
  refine Met.ofW (cc := cX9_chapter) (maxL := 5) (ret := (some .int)) (by decide) rfl ?_
  intro p e s m args below meth c s₁ B hml hv
  obtain ⟨rfl, hsz, hP, hK, hD0, hN⟩ := hv
  have hx := B.exec
  have hb := B.bytes
  have hr := B.returns
  have hts := atoms_spec (ws := wsX9_chapter) B.pre
  have hown : s.vm.findClass RX9 = some m.cls := findClass_of_methodNamed B.named
  have hlocks := B.notSynchronized
  subst hsz
  have hD := hD0.self (sz := s.heap.size)
  generalize hAe : va_A (wVC aV aS xV1 xV2 xV3 xV4 xV5 xV6 ++ (wSC aS aL.1 aR.1 xS2 ++ (wBK cI aL vL0 vL1 vL2 vL3 ++ wBK cI aR vR0 vR1 vR2 vR3))) s.heap.size = A at hD ⊢
  have hA : ∀ q : Nat, s.heap.size ≤ q → A q := fun q h => by rw [← hAe]; exact Or.inr h
  have hS : va_S A s.heap s.heap [] := va_S.rf
  have huX9 : ∀ w ∈ u_ws RX9 TX9 7, w ∈ wsX9_chapter := by decide +kernel
  have hl := lv_entry ([.ref aV, .int i1, .int i2, .int i3]) (n := 5) (Nat.le_of_ble_eq_true rfl)
  rw [lg_entry_eq]
  generalize (lg_sl ([.ref aV, .int i1, .int i2, .int i3]) ++ List.replicate (5 - (lg_sl ([.ref aV, .int i1, .int i2, .int i3])).length) Slot.unset).toArray = ls at hl ⊢
  have hl : lv_has ls 5 [(0, .ref aV), (1, .int i1), (2, .int i2), (3, .int i3)] := hl
  unfold pX9_chapter at h
  refine lv_iload_n hx hb dX9_chapter_0 rfl (lv_at hl 1 rfl) ?_
  obtain ⟨q2, h1, h⟩ := Option.bind_eq_some_iff.mp h
  refine kcir [] (va_runS (As := [.int i1]) (rest := []) ⟨hx, hb, hml, hown, hts⟩ (kX9_isBook l D cI cC cS i1 s.heap.size h1) (cwS 1 hts gX9_chapter_X9_isBook rfl rfl rfl (by decide +kernel) ⟨Nat.le_of_ble_eq_true rfl, Nat.le_of_ble_eq_true rfl⟩) (kpre hK hN hP hD [] rfl (by decide)) rfl rfl hl.1 rfl (lv_room (Nat.le_of_ble_eq_true rfl)) dX9_chapter_1 ⟨Nat.le_refl _, Nat.le_refl _⟩) hP hD hS hA rfl (fun H locs hP hS => ?_)
  refine lv_if_eq (tgt := 26) hx hb dX9_chapter_4 (by decide) (fun g => ?_) (fun g => ?_)
  · rw [if_pos g] at h
    refine lv_iconst (v := (-1 : Int32)) hx hb dX9_chapter_26 (by decide) ?_
    obtain rfl := Option.some.inj h
    exact W.iret (v := (-1 : Int32)) hx hb hr (fun t ht hW => ⟨⟨_, (), rfl, rfl, by rw [ht]; exact hP, hD⟩, hS.F ht⟩) hS.2.2 dX9_chapter_27
  · rw [if_neg g] at h
    refine lv_iload_n hx hb dX9_chapter_7 rfl (lv_at hl 2 rfl) ?_
    refine lv_iconst (v := (1 : Int32)) hx hb dX9_chapter_8 (by decide) ?_
    refine lv_aload_n hx hb dX9_chapter_9 rfl (lv_at hl 0 rfl) ?_
    refine va_get (D := D) (ci := 9) (v := .ref aS) (C := RX9) (T := TX9) (N := 7) hx hb hts huX9 hown hK hP 0 rfl rfl 0 (by decide) (hts (.fieldLink RX9 12 "VerseColumns" "state" "LVerseColumns$State;") (by decide +kernel)) (fun _ h9 => h9) rfl dX9_chapter_10 ?_
    refine lv_iload_n hx hb dX9_chapter_13 rfl (lv_at hl 1 rfl) ?_
    refine kcrr [1] (va_runV (As := [.int i1]) (rest := [.int (1 : Int32), .int i2]) ⟨hx, hb, hml, hown, hts⟩ (kX7_bookOf l D cI cC cS aS aL.1 aR.1 xS2 i1 H.size) (cwV 1 hts gX9_chapter_X7_bookOf rfl rfl rfl (by decide +kernel) ⟨Nat.le_of_ble_eq_true rfl, Nat.le_of_ble_eq_true rfl⟩) (kpreV hK hN hP hD [1] rfl (by decide) 7 rfl rfl) rfl rfl hl.1 rfl (lv_room (Nat.le_of_ble_eq_true rfl)) dX9_chapter_14 ⟨Nat.le_refl _, Nat.le_refl _⟩) hP hD hS hA rfl (fun H locs hP hS => ?_)
    by_cases g : i1 = 0
    · rw [if_pos g] at h ⊢
      obtain ⟨q6, h5, h⟩ := Option.bind_eq_some_iff.mp h
      refine kcir [2, 3, 4, 5] (va_runV (As := []) (rest := [.int (1 : Int32), .int i2]) ⟨hx, hb, hml, hown, hts⟩ (kX0_chapterTotal l D cI cC cS aL vL0 vL1 vL2 vL3 H.size h5) (cwV 0 hts gX9_chapter_X0_chapterTotal rfl rfl rfl (by decide +kernel) ⟨Nat.le_of_ble_eq_true rfl, Nat.le_of_ble_eq_true rfl⟩) (kpreV hK hN hP hD [2, 3, 4, 5] rfl (by decide) 0 rfl rfl) rfl rfl hl.1 rfl (lv_room (Nat.le_of_ble_eq_true rfl)) dX9_chapter_17 ⟨Nat.le_refl _, Nat.le_refl _⟩) hP hD hS hA rfl (fun H locs hP hS => ?_)
      obtain ⟨q8, h7, h⟩ := Option.bind_eq_some_iff.mp h
      refine kcir [] (va_runS (As := [.int i2, .int (1 : Int32), .int q6]) (rest := []) ⟨hx, hb, hml, hown, hts⟩ (kX9_isWithin l D cI cC cS i2 (1 : Int32) q6 H.size h7) (cwS 3 hts gX9_chapter_X9_isWithin rfl rfl rfl (by decide +kernel) ⟨Nat.le_of_ble_eq_true rfl, Nat.le_of_ble_eq_true rfl⟩) (kpre hK hN hP hD [] rfl (by decide)) rfl rfl hl.1 rfl (lv_room (Nat.le_of_ble_eq_true rfl)) dX9_chapter_20 ⟨Nat.le_refl _, Nat.le_refl _⟩) hP hD hS hA rfl (fun H locs hP hS => ?_)
      refine lv_if_ne (tgt := 28) hx hb dX9_chapter_23 (by decide) (fun g => ?_) (fun g => ?_)
      · rw [if_neg g] at h
        refine lv_iload_n hx hb dX9_chapter_28 rfl (lv_at hl 3 rfl) ?_
        refine lv_iconst (v := (0 : Int32)) hx hb dX9_chapter_29 (by decide) ?_
        refine lv_iconst (v := (2 : Int32)) hx hb dX9_chapter_30 (by decide) ?_
        obtain ⟨q10, h9, h⟩ := Option.bind_eq_some_iff.mp h
        refine kcir [] (va_runS (As := [.int i3, .int (0 : Int32), .int (2 : Int32)]) (rest := []) ⟨hx, hb, hml, hown, hts⟩ (kX9_isWithin l D cI cC cS i3 (0 : Int32) (2 : Int32) H.size h9) (cwS 3 hts gX9_chapter_X9_isWithin rfl rfl rfl (by decide +kernel) ⟨Nat.le_of_ble_eq_true rfl, Nat.le_of_ble_eq_true rfl⟩) (kpre hK hN hP hD [] rfl (by decide)) rfl rfl hl.1 rfl (lv_room (Nat.le_of_ble_eq_true rfl)) dX9_chapter_31 ⟨Nat.le_refl _, Nat.le_refl _⟩) hP hD hS hA rfl (fun H locs hP hS => ?_)
        refine lv_if_ne (tgt := 40) hx hb dX9_chapter_34 (by decide) (fun g => ?_) (fun g => ?_)
        · rw [if_neg g] at h
          refine lv_aload_n hx hb dX9_chapter_40 rfl (lv_at hl 0 rfl) ?_
          refine va_get (D := D) (ci := 9) (v := .ref aS) (C := RX9) (T := TX9) (N := 7) hx hb hts huX9 hown hK hP 0 rfl rfl 0 (by decide) (hts (.fieldLink RX9 12 "VerseColumns" "state" "LVerseColumns$State;") (by decide +kernel)) (fun _ h9 => h9) rfl dX9_chapter_41 ?_
          refine lv_iload_n hx hb dX9_chapter_44 rfl (lv_at hl 1 rfl) ?_
          refine kcrr [1] (va_runV (As := [.int i1]) (rest := []) ⟨hx, hb, hml, hown, hts⟩ (kX7_bookOf l D cI cC cS aS aL.1 aR.1 xS2 i1 H.size) (cwV 1 hts gX9_chapter_X7_bookOf rfl rfl rfl (by decide +kernel) ⟨Nat.le_of_ble_eq_true rfl, Nat.le_of_ble_eq_true rfl⟩) (kpreV hK hN hP hD [1] rfl (by decide) 7 rfl rfl) rfl rfl hl.1 rfl (lv_room (Nat.le_of_ble_eq_true rfl)) dX9_chapter_45 ⟨Nat.le_refl _, Nat.le_refl _⟩) hP hD hS hA rfl (fun H locs hP hS => ?_)
          by_cases g : i1 = 0
          · rw [if_pos g] at h ⊢
            refine lv_astore (lv' := [(4, .ref aL.1), (0, .ref aV), (1, .int i1), (2, .int i2), (3, .int i3)]) hx hb dX9_chapter_48 hl (by decide) rfl (fun ls hl => ?_)
            refine lv_iload_n hx hb dX9_chapter_50 rfl (lv_at hl 4 rfl) ?_
            by_cases g0 : i3 = 0
            · rw [if_pos g0] at h
              have e : i3.toInt = 0 := by rw [g0]; rfl
              refine lv_lookup hx hb dX9_chapter_51 (by decide) (off := 25) (tgt := 76) (by rw [e]; rfl) (by decide) ?_
              refine lv_aload hx hb dX9_chapter_76 (lv_at hl 0 rfl) ?_
              refine lv_iload_n hx hb dX9_chapter_78 rfl (lv_at hl 3 rfl) ?_
              obtain ⟨q14, h13, h⟩ := Option.bind_eq_some_iff.mp h
              refine kcir [2, 3, 4, 5] (va_runV (As := [.int i2]) (rest := []) ⟨hx, hb, hml, hown, hts⟩ (kX0_firstOf l D cI cC cS aL vL0 vL1 vL2 vL3 i2 H.size h13) (cwV 1 hts gX9_chapter_X0_firstOf rfl rfl rfl (by decide +kernel) ⟨Nat.le_of_ble_eq_true rfl, Nat.le_of_ble_eq_true rfl⟩) (kpreV hK hN hP hD [2, 3, 4, 5] rfl (by decide) 0 rfl rfl) rfl rfl hl.1 rfl (lv_room (Nat.le_of_ble_eq_true rfl)) dX9_chapter_79 ⟨Nat.le_refl _, Nat.le_refl _⟩) hP hD hS hA rfl (fun H locs hP hS => ?_)
              obtain rfl := Option.some.inj h
              exact W.iret (v := q14) hx hb hr (fun t ht hW => ⟨⟨_, (), rfl, rfl, by rw [ht]; exact hP, hD⟩, hS.F ht⟩) hS.2.2 dX9_chapter_82
            · rw [if_neg g0] at h
              by_cases g1 : i3 = 1
              · rw [if_pos g1] at h
                have e : i3.toInt = 1 := by rw [g1]; rfl
                refine lv_lookup hx hb dX9_chapter_51 (by decide) (off := 32) (tgt := 83) (by rw [e]; rfl) (by decide) ?_
                refine lv_aload hx hb dX9_chapter_83 (lv_at hl 0 rfl) ?_
                refine lv_iload_n hx hb dX9_chapter_85 rfl (lv_at hl 3 rfl) ?_
                obtain ⟨q16, h15, h⟩ := Option.bind_eq_some_iff.mp h
                refine kcir [2, 3, 4, 5] (va_runV (As := [.int i2]) (rest := []) ⟨hx, hb, hml, hown, hts⟩ (kX0_versesOf l D cI cC cS aL vL0 vL1 vL2 vL3 i2 H.size h15) (cwV 1 hts gX9_chapter_X0_versesOf rfl rfl rfl (by decide +kernel) ⟨Nat.le_of_ble_eq_true rfl, Nat.le_of_ble_eq_true rfl⟩) (kpreV hK hN hP hD [2, 3, 4, 5] rfl (by decide) 0 rfl rfl) rfl rfl hl.1 rfl (lv_room (Nat.le_of_ble_eq_true rfl)) dX9_chapter_86 ⟨Nat.le_refl _, Nat.le_refl _⟩) hP hD hS hA rfl (fun H locs hP hS => ?_)
                obtain rfl := Option.some.inj h
                exact W.iret (v := q16) hx hb hr (fun t ht hW => ⟨⟨_, (), rfl, rfl, by rw [ht]; exact hP, hD⟩, hS.F ht⟩) hS.2.2 dX9_chapter_89
              · rw [if_neg g1] at h
                refine lv_lookup hx hb dX9_chapter_51 (by decide) (off := 39) (tgt := 90) (by refine (lv_osw (k := (0 : Int32)) g0 rfl).trans ?_; refine (lv_osw (k := (1 : Int32)) g1 rfl).trans ?_; rfl) (by decide) ?_
                refine lv_aload hx hb dX9_chapter_90 (lv_at hl 0 rfl) ?_
                refine lv_iload_n hx hb dX9_chapter_92 rfl (lv_at hl 3 rfl) ?_
                obtain ⟨q18, h17, h⟩ := Option.bind_eq_some_iff.mp h
                refine kcir [2, 3, 4, 5] (va_runV (As := [.int i2]) (rest := []) ⟨hx, hb, hml, hown, hts⟩ (kX0_letterSumOf l D cI cC cS aL vL0 vL1 vL2 vL3 i2 H.size h17) (cwV 1 hts gX9_chapter_X0_letterSumOf rfl rfl rfl (by decide +kernel) ⟨Nat.le_of_ble_eq_true rfl, Nat.le_of_ble_eq_true rfl⟩) (kpreV hK hN hP hD [2, 3, 4, 5] rfl (by decide) 0 rfl rfl) rfl rfl hl.1 rfl (lv_room (Nat.le_of_ble_eq_true rfl)) dX9_chapter_93 ⟨Nat.le_refl _, Nat.le_refl _⟩) hP hD hS hA rfl (fun H locs hP hS => ?_)
                obtain rfl := Option.some.inj h
                exact W.iret (v := q18) hx hb hr (fun t ht hW => ⟨⟨_, (), rfl, rfl, by rw [ht]; exact hP, hD⟩, hS.F ht⟩) hS.2.2 dX9_chapter_96
          · rw [if_neg g] at h ⊢
            refine lv_astore (lv' := [(4, .ref aR.1), (0, .ref aV), (1, .int i1), (2, .int i2), (3, .int i3)]) hx hb dX9_chapter_48 hl (by decide) rfl (fun ls hl => ?_)
            refine lv_iload_n hx hb dX9_chapter_50 rfl (lv_at hl 4 rfl) ?_
            by_cases g0 : i3 = 0
            · rw [if_pos g0] at h
              have e : i3.toInt = 0 := by rw [g0]; rfl
              refine lv_lookup hx hb dX9_chapter_51 (by decide) (off := 25) (tgt := 76) (by rw [e]; rfl) (by decide) ?_
              refine lv_aload hx hb dX9_chapter_76 (lv_at hl 0 rfl) ?_
              refine lv_iload_n hx hb dX9_chapter_78 rfl (lv_at hl 3 rfl) ?_
              obtain ⟨q20, h19, h⟩ := Option.bind_eq_some_iff.mp h
              refine kcir [6, 7, 8, 9] (va_runV (As := [.int i2]) (rest := []) ⟨hx, hb, hml, hown, hts⟩ (kX0_firstOf l D cI cC cS aR vR0 vR1 vR2 vR3 i2 H.size h19) (cwV 1 hts gX9_chapter_X0_firstOf rfl rfl rfl (by decide +kernel) ⟨Nat.le_of_ble_eq_true rfl, Nat.le_of_ble_eq_true rfl⟩) (kpreV hK hN hP hD [6, 7, 8, 9] rfl (by decide) 0 rfl rfl) rfl rfl hl.1 rfl (lv_room (Nat.le_of_ble_eq_true rfl)) dX9_chapter_79 ⟨Nat.le_refl _, Nat.le_refl _⟩) hP hD hS hA rfl (fun H locs hP hS => ?_)
              obtain rfl := Option.some.inj h
              exact W.iret (v := q20) hx hb hr (fun t ht hW => ⟨⟨_, (), rfl, rfl, by rw [ht]; exact hP, hD⟩, hS.F ht⟩) hS.2.2 dX9_chapter_82
            · rw [if_neg g0] at h
              by_cases g1 : i3 = 1
              · rw [if_pos g1] at h
                have e : i3.toInt = 1 := by rw [g1]; rfl
                refine lv_lookup hx hb dX9_chapter_51 (by decide) (off := 32) (tgt := 83) (by rw [e]; rfl) (by decide) ?_
                refine lv_aload hx hb dX9_chapter_83 (lv_at hl 0 rfl) ?_
                refine lv_iload_n hx hb dX9_chapter_85 rfl (lv_at hl 3 rfl) ?_
                obtain ⟨q22, h21, h⟩ := Option.bind_eq_some_iff.mp h
                refine kcir [6, 7, 8, 9] (va_runV (As := [.int i2]) (rest := []) ⟨hx, hb, hml, hown, hts⟩ (kX0_versesOf l D cI cC cS aR vR0 vR1 vR2 vR3 i2 H.size h21) (cwV 1 hts gX9_chapter_X0_versesOf rfl rfl rfl (by decide +kernel) ⟨Nat.le_of_ble_eq_true rfl, Nat.le_of_ble_eq_true rfl⟩) (kpreV hK hN hP hD [6, 7, 8, 9] rfl (by decide) 0 rfl rfl) rfl rfl hl.1 rfl (lv_room (Nat.le_of_ble_eq_true rfl)) dX9_chapter_86 ⟨Nat.le_refl _, Nat.le_refl _⟩) hP hD hS hA rfl (fun H locs hP hS => ?_)
                obtain rfl := Option.some.inj h
                exact W.iret (v := q22) hx hb hr (fun t ht hW => ⟨⟨_, (), rfl, rfl, by rw [ht]; exact hP, hD⟩, hS.F ht⟩) hS.2.2 dX9_chapter_89
              · rw [if_neg g1] at h
                refine lv_lookup hx hb dX9_chapter_51 (by decide) (off := 39) (tgt := 90) (by refine (lv_osw (k := (0 : Int32)) g0 rfl).trans ?_; refine (lv_osw (k := (1 : Int32)) g1 rfl).trans ?_; rfl) (by decide) ?_
                refine lv_aload hx hb dX9_chapter_90 (lv_at hl 0 rfl) ?_
                refine lv_iload_n hx hb dX9_chapter_92 rfl (lv_at hl 3 rfl) ?_
                obtain ⟨q24, h23, h⟩ := Option.bind_eq_some_iff.mp h
                refine kcir [6, 7, 8, 9] (va_runV (As := [.int i2]) (rest := []) ⟨hx, hb, hml, hown, hts⟩ (kX0_letterSumOf l D cI cC cS aR vR0 vR1 vR2 vR3 i2 H.size h23) (cwV 1 hts gX9_chapter_X0_letterSumOf rfl rfl rfl (by decide +kernel) ⟨Nat.le_of_ble_eq_true rfl, Nat.le_of_ble_eq_true rfl⟩) (kpreV hK hN hP hD [6, 7, 8, 9] rfl (by decide) 0 rfl rfl) rfl rfl hl.1 rfl (lv_room (Nat.le_of_ble_eq_true rfl)) dX9_chapter_93 ⟨Nat.le_refl _, Nat.le_refl _⟩) hP hD hS hA rfl (fun H locs hP hS => ?_)
                obtain rfl := Option.some.inj h
                exact W.iret (v := q24) hx hb hr (fun t ht hW => ⟨⟨_, (), rfl, rfl, by rw [ht]; exact hP, hD⟩, hS.F ht⟩) hS.2.2 dX9_chapter_96
        · rw [if_pos g] at h
          refine lv_bipush (v := (-2 : Int32)) hx hb dX9_chapter_37 (by decide) ?_
          obtain rfl := Option.some.inj h
          exact W.iret (v := (-2 : Int32)) hx hb hr (fun t ht hW => ⟨⟨_, (), rfl, rfl, by rw [ht]; exact hP, hD⟩, hS.F ht⟩) hS.2.2 dX9_chapter_39
      · rw [if_pos g] at h
        refine lv_iconst (v := (-1 : Int32)) hx hb dX9_chapter_26 (by decide) ?_
        obtain rfl := Option.some.inj h
        exact W.iret (v := (-1 : Int32)) hx hb hr (fun t ht hW => ⟨⟨_, (), rfl, rfl, by rw [ht]; exact hP, hD⟩, hS.F ht⟩) hS.2.2 dX9_chapter_27
    · rw [if_neg g] at h ⊢
      obtain ⟨q26, h25, h⟩ := Option.bind_eq_some_iff.mp h
      refine kcir [6, 7, 8, 9] (va_runV (As := []) (rest := [.int (1 : Int32), .int i2]) ⟨hx, hb, hml, hown, hts⟩ (kX0_chapterTotal l D cI cC cS aR vR0 vR1 vR2 vR3 H.size h25) (cwV 0 hts gX9_chapter_X0_chapterTotal rfl rfl rfl (by decide +kernel) ⟨Nat.le_of_ble_eq_true rfl, Nat.le_of_ble_eq_true rfl⟩) (kpreV hK hN hP hD [6, 7, 8, 9] rfl (by decide) 0 rfl rfl) rfl rfl hl.1 rfl (lv_room (Nat.le_of_ble_eq_true rfl)) dX9_chapter_17 ⟨Nat.le_refl _, Nat.le_refl _⟩) hP hD hS hA rfl (fun H locs hP hS => ?_)
      obtain ⟨q28, h27, h⟩ := Option.bind_eq_some_iff.mp h
      refine kcir [] (va_runS (As := [.int i2, .int (1 : Int32), .int q26]) (rest := []) ⟨hx, hb, hml, hown, hts⟩ (kX9_isWithin l D cI cC cS i2 (1 : Int32) q26 H.size h27) (cwS 3 hts gX9_chapter_X9_isWithin rfl rfl rfl (by decide +kernel) ⟨Nat.le_of_ble_eq_true rfl, Nat.le_of_ble_eq_true rfl⟩) (kpre hK hN hP hD [] rfl (by decide)) rfl rfl hl.1 rfl (lv_room (Nat.le_of_ble_eq_true rfl)) dX9_chapter_20 ⟨Nat.le_refl _, Nat.le_refl _⟩) hP hD hS hA rfl (fun H locs hP hS => ?_)
      refine lv_if_ne (tgt := 28) hx hb dX9_chapter_23 (by decide) (fun g => ?_) (fun g => ?_)
      · rw [if_neg g] at h
        refine lv_iload_n hx hb dX9_chapter_28 rfl (lv_at hl 3 rfl) ?_
        refine lv_iconst (v := (0 : Int32)) hx hb dX9_chapter_29 (by decide) ?_
        refine lv_iconst (v := (2 : Int32)) hx hb dX9_chapter_30 (by decide) ?_
        obtain ⟨q30, h29, h⟩ := Option.bind_eq_some_iff.mp h
        refine kcir [] (va_runS (As := [.int i3, .int (0 : Int32), .int (2 : Int32)]) (rest := []) ⟨hx, hb, hml, hown, hts⟩ (kX9_isWithin l D cI cC cS i3 (0 : Int32) (2 : Int32) H.size h29) (cwS 3 hts gX9_chapter_X9_isWithin rfl rfl rfl (by decide +kernel) ⟨Nat.le_of_ble_eq_true rfl, Nat.le_of_ble_eq_true rfl⟩) (kpre hK hN hP hD [] rfl (by decide)) rfl rfl hl.1 rfl (lv_room (Nat.le_of_ble_eq_true rfl)) dX9_chapter_31 ⟨Nat.le_refl _, Nat.le_refl _⟩) hP hD hS hA rfl (fun H locs hP hS => ?_)
        refine lv_if_ne (tgt := 40) hx hb dX9_chapter_34 (by decide) (fun g => ?_) (fun g => ?_)
        · rw [if_neg g] at h
          refine lv_aload_n hx hb dX9_chapter_40 rfl (lv_at hl 0 rfl) ?_
          refine va_get (D := D) (ci := 9) (v := .ref aS) (C := RX9) (T := TX9) (N := 7) hx hb hts huX9 hown hK hP 0 rfl rfl 0 (by decide) (hts (.fieldLink RX9 12 "VerseColumns" "state" "LVerseColumns$State;") (by decide +kernel)) (fun _ h9 => h9) rfl dX9_chapter_41 ?_
          refine lv_iload_n hx hb dX9_chapter_44 rfl (lv_at hl 1 rfl) ?_
          refine kcrr [1] (va_runV (As := [.int i1]) (rest := []) ⟨hx, hb, hml, hown, hts⟩ (kX7_bookOf l D cI cC cS aS aL.1 aR.1 xS2 i1 H.size) (cwV 1 hts gX9_chapter_X7_bookOf rfl rfl rfl (by decide +kernel) ⟨Nat.le_of_ble_eq_true rfl, Nat.le_of_ble_eq_true rfl⟩) (kpreV hK hN hP hD [1] rfl (by decide) 7 rfl rfl) rfl rfl hl.1 rfl (lv_room (Nat.le_of_ble_eq_true rfl)) dX9_chapter_45 ⟨Nat.le_refl _, Nat.le_refl _⟩) hP hD hS hA rfl (fun H locs hP hS => ?_)
          by_cases g : i1 = 0
          · rw [if_pos g] at h ⊢
            refine lv_astore (lv' := [(4, .ref aL.1), (0, .ref aV), (1, .int i1), (2, .int i2), (3, .int i3)]) hx hb dX9_chapter_48 hl (by decide) rfl (fun ls hl => ?_)
            refine lv_iload_n hx hb dX9_chapter_50 rfl (lv_at hl 4 rfl) ?_
            by_cases g0 : i3 = 0
            · rw [if_pos g0] at h
              have e : i3.toInt = 0 := by rw [g0]; rfl
              refine lv_lookup hx hb dX9_chapter_51 (by decide) (off := 25) (tgt := 76) (by rw [e]; rfl) (by decide) ?_
              refine lv_aload hx hb dX9_chapter_76 (lv_at hl 0 rfl) ?_
              refine lv_iload_n hx hb dX9_chapter_78 rfl (lv_at hl 3 rfl) ?_
              obtain ⟨q34, h33, h⟩ := Option.bind_eq_some_iff.mp h
              refine kcir [2, 3, 4, 5] (va_runV (As := [.int i2]) (rest := []) ⟨hx, hb, hml, hown, hts⟩ (kX0_firstOf l D cI cC cS aL vL0 vL1 vL2 vL3 i2 H.size h33) (cwV 1 hts gX9_chapter_X0_firstOf rfl rfl rfl (by decide +kernel) ⟨Nat.le_of_ble_eq_true rfl, Nat.le_of_ble_eq_true rfl⟩) (kpreV hK hN hP hD [2, 3, 4, 5] rfl (by decide) 0 rfl rfl) rfl rfl hl.1 rfl (lv_room (Nat.le_of_ble_eq_true rfl)) dX9_chapter_79 ⟨Nat.le_refl _, Nat.le_refl _⟩) hP hD hS hA rfl (fun H locs hP hS => ?_)
              obtain rfl := Option.some.inj h
              exact W.iret (v := q34) hx hb hr (fun t ht hW => ⟨⟨_, (), rfl, rfl, by rw [ht]; exact hP, hD⟩, hS.F ht⟩) hS.2.2 dX9_chapter_82
            · rw [if_neg g0] at h
              by_cases g1 : i3 = 1
              · rw [if_pos g1] at h
                have e : i3.toInt = 1 := by rw [g1]; rfl
                refine lv_lookup hx hb dX9_chapter_51 (by decide) (off := 32) (tgt := 83) (by rw [e]; rfl) (by decide) ?_
                refine lv_aload hx hb dX9_chapter_83 (lv_at hl 0 rfl) ?_
                refine lv_iload_n hx hb dX9_chapter_85 rfl (lv_at hl 3 rfl) ?_
                obtain ⟨q36, h35, h⟩ := Option.bind_eq_some_iff.mp h
                refine kcir [2, 3, 4, 5] (va_runV (As := [.int i2]) (rest := []) ⟨hx, hb, hml, hown, hts⟩ (kX0_versesOf l D cI cC cS aL vL0 vL1 vL2 vL3 i2 H.size h35) (cwV 1 hts gX9_chapter_X0_versesOf rfl rfl rfl (by decide +kernel) ⟨Nat.le_of_ble_eq_true rfl, Nat.le_of_ble_eq_true rfl⟩) (kpreV hK hN hP hD [2, 3, 4, 5] rfl (by decide) 0 rfl rfl) rfl rfl hl.1 rfl (lv_room (Nat.le_of_ble_eq_true rfl)) dX9_chapter_86 ⟨Nat.le_refl _, Nat.le_refl _⟩) hP hD hS hA rfl (fun H locs hP hS => ?_)
                obtain rfl := Option.some.inj h
                exact W.iret (v := q36) hx hb hr (fun t ht hW => ⟨⟨_, (), rfl, rfl, by rw [ht]; exact hP, hD⟩, hS.F ht⟩) hS.2.2 dX9_chapter_89
              · rw [if_neg g1] at h
                refine lv_lookup hx hb dX9_chapter_51 (by decide) (off := 39) (tgt := 90) (by refine (lv_osw (k := (0 : Int32)) g0 rfl).trans ?_; refine (lv_osw (k := (1 : Int32)) g1 rfl).trans ?_; rfl) (by decide) ?_
                refine lv_aload hx hb dX9_chapter_90 (lv_at hl 0 rfl) ?_
                refine lv_iload_n hx hb dX9_chapter_92 rfl (lv_at hl 3 rfl) ?_
                obtain ⟨q38, h37, h⟩ := Option.bind_eq_some_iff.mp h
                refine kcir [2, 3, 4, 5] (va_runV (As := [.int i2]) (rest := []) ⟨hx, hb, hml, hown, hts⟩ (kX0_letterSumOf l D cI cC cS aL vL0 vL1 vL2 vL3 i2 H.size h37) (cwV 1 hts gX9_chapter_X0_letterSumOf rfl rfl rfl (by decide +kernel) ⟨Nat.le_of_ble_eq_true rfl, Nat.le_of_ble_eq_true rfl⟩) (kpreV hK hN hP hD [2, 3, 4, 5] rfl (by decide) 0 rfl rfl) rfl rfl hl.1 rfl (lv_room (Nat.le_of_ble_eq_true rfl)) dX9_chapter_93 ⟨Nat.le_refl _, Nat.le_refl _⟩) hP hD hS hA rfl (fun H locs hP hS => ?_)
                obtain rfl := Option.some.inj h
                exact W.iret (v := q38) hx hb hr (fun t ht hW => ⟨⟨_, (), rfl, rfl, by rw [ht]; exact hP, hD⟩, hS.F ht⟩) hS.2.2 dX9_chapter_96
          · rw [if_neg g] at h ⊢
            refine lv_astore (lv' := [(4, .ref aR.1), (0, .ref aV), (1, .int i1), (2, .int i2), (3, .int i3)]) hx hb dX9_chapter_48 hl (by decide) rfl (fun ls hl => ?_)
            refine lv_iload_n hx hb dX9_chapter_50 rfl (lv_at hl 4 rfl) ?_
            by_cases g0 : i3 = 0
            · rw [if_pos g0] at h
              have e : i3.toInt = 0 := by rw [g0]; rfl
              refine lv_lookup hx hb dX9_chapter_51 (by decide) (off := 25) (tgt := 76) (by rw [e]; rfl) (by decide) ?_
              refine lv_aload hx hb dX9_chapter_76 (lv_at hl 0 rfl) ?_
              refine lv_iload_n hx hb dX9_chapter_78 rfl (lv_at hl 3 rfl) ?_
              obtain ⟨q40, h39, h⟩ := Option.bind_eq_some_iff.mp h
              refine kcir [6, 7, 8, 9] (va_runV (As := [.int i2]) (rest := []) ⟨hx, hb, hml, hown, hts⟩ (kX0_firstOf l D cI cC cS aR vR0 vR1 vR2 vR3 i2 H.size h39) (cwV 1 hts gX9_chapter_X0_firstOf rfl rfl rfl (by decide +kernel) ⟨Nat.le_of_ble_eq_true rfl, Nat.le_of_ble_eq_true rfl⟩) (kpreV hK hN hP hD [6, 7, 8, 9] rfl (by decide) 0 rfl rfl) rfl rfl hl.1 rfl (lv_room (Nat.le_of_ble_eq_true rfl)) dX9_chapter_79 ⟨Nat.le_refl _, Nat.le_refl _⟩) hP hD hS hA rfl (fun H locs hP hS => ?_)
              obtain rfl := Option.some.inj h
              exact W.iret (v := q40) hx hb hr (fun t ht hW => ⟨⟨_, (), rfl, rfl, by rw [ht]; exact hP, hD⟩, hS.F ht⟩) hS.2.2 dX9_chapter_82
            · rw [if_neg g0] at h
              by_cases g1 : i3 = 1
              · rw [if_pos g1] at h
                have e : i3.toInt = 1 := by rw [g1]; rfl
                refine lv_lookup hx hb dX9_chapter_51 (by decide) (off := 32) (tgt := 83) (by rw [e]; rfl) (by decide) ?_
                refine lv_aload hx hb dX9_chapter_83 (lv_at hl 0 rfl) ?_
                refine lv_iload_n hx hb dX9_chapter_85 rfl (lv_at hl 3 rfl) ?_
                obtain ⟨q42, h41, h⟩ := Option.bind_eq_some_iff.mp h
                refine kcir [6, 7, 8, 9] (va_runV (As := [.int i2]) (rest := []) ⟨hx, hb, hml, hown, hts⟩ (kX0_versesOf l D cI cC cS aR vR0 vR1 vR2 vR3 i2 H.size h41) (cwV 1 hts gX9_chapter_X0_versesOf rfl rfl rfl (by decide +kernel) ⟨Nat.le_of_ble_eq_true rfl, Nat.le_of_ble_eq_true rfl⟩) (kpreV hK hN hP hD [6, 7, 8, 9] rfl (by decide) 0 rfl rfl) rfl rfl hl.1 rfl (lv_room (Nat.le_of_ble_eq_true rfl)) dX9_chapter_86 ⟨Nat.le_refl _, Nat.le_refl _⟩) hP hD hS hA rfl (fun H locs hP hS => ?_)
                obtain rfl := Option.some.inj h
                exact W.iret (v := q42) hx hb hr (fun t ht hW => ⟨⟨_, (), rfl, rfl, by rw [ht]; exact hP, hD⟩, hS.F ht⟩) hS.2.2 dX9_chapter_89
              · rw [if_neg g1] at h
                refine lv_lookup hx hb dX9_chapter_51 (by decide) (off := 39) (tgt := 90) (by refine (lv_osw (k := (0 : Int32)) g0 rfl).trans ?_; refine (lv_osw (k := (1 : Int32)) g1 rfl).trans ?_; rfl) (by decide) ?_
                refine lv_aload hx hb dX9_chapter_90 (lv_at hl 0 rfl) ?_
                refine lv_iload_n hx hb dX9_chapter_92 rfl (lv_at hl 3 rfl) ?_
                obtain ⟨q44, h43, h⟩ := Option.bind_eq_some_iff.mp h
                refine kcir [6, 7, 8, 9] (va_runV (As := [.int i2]) (rest := []) ⟨hx, hb, hml, hown, hts⟩ (kX0_letterSumOf l D cI cC cS aR vR0 vR1 vR2 vR3 i2 H.size h43) (cwV 1 hts gX9_chapter_X0_letterSumOf rfl rfl rfl (by decide +kernel) ⟨Nat.le_of_ble_eq_true rfl, Nat.le_of_ble_eq_true rfl⟩) (kpreV hK hN hP hD [6, 7, 8, 9] rfl (by decide) 0 rfl rfl) rfl rfl hl.1 rfl (lv_room (Nat.le_of_ble_eq_true rfl)) dX9_chapter_93 ⟨Nat.le_refl _, Nat.le_refl _⟩) hP hD hS hA rfl (fun H locs hP hS => ?_)
                obtain rfl := Option.some.inj h
                exact W.iret (v := q44) hx hb hr (fun t ht hW => ⟨⟨_, (), rfl, rfl, by rw [ht]; exact hP, hD⟩, hS.F ht⟩) hS.2.2 dX9_chapter_96
        · rw [if_pos g] at h
          refine lv_bipush (v := (-2 : Int32)) hx hb dX9_chapter_37 (by decide) ?_
          obtain rfl := Option.some.inj h
          exact W.iret (v := (-2 : Int32)) hx hb hr (fun t ht hW => ⟨⟨_, (), rfl, rfl, by rw [ht]; exact hP, hD⟩, hS.F ht⟩) hS.2.2 dX9_chapter_39
      · rw [if_pos g] at h
        refine lv_iconst (v := (-1 : Int32)) hx hb dX9_chapter_26 (by decide) ?_
        obtain rfl := Option.some.inj h
        exact W.iret (v := (-1 : Int32)) hx hb hr (fun t ht hW => ⟨⟨_, (), rfl, rfl, by rw [ht]; exact hP, hD⟩, hS.F ht⟩) hS.2.2 dX9_chapter_27
set_option maxHeartbeats 8000000 in
set_option maxRecDepth 100000 in
theorem kX9_verse (l : Launch) (D : va_G) (cI cC cS : ClassId) (aV : Nat) (xV1 : Nat) (xV2 : Nat) (xV3 : Nat) (xV4 : Nat) (xV5 : Nat) (aS : Nat) (xS2 : Nat) (aL : Nat × Nat × Nat × Nat) (vL0 : (Nat → Int32)) (vL1 : (Nat → Int32)) (vL2 : (Nat → Int32)) (vL3 : Int32) (aR : Nat × Nat × Nat × Nat) (vR0 : (Nat → Int32)) (vR1 : (Nat → Int32)) (vR2 : (Nat → Int32)) (vR3 : Int32) (aY : Nat × Nat × Nat × Nat × Nat) (vY0 : Int32) (vY1 : Int32) (vY2 : Int32) (vY3 : Int32) (vY4 : (Nat → Int32)) (vY5 : (Nat → Int32)) (vY6 : (Nat → Int32)) (vY7 : (Nat → Int32)) (vY8 : Int32) (vY9 : Int32) (vY10 : Int32) (i1 : Int32) (i2 : Int32) (i3 : Int32) (sz : Nat) {q : Int32} (h : pX9_verse vL0 vL1 vL2 vL3 vR0 vR1 vR2 vR3 vY0 vY1 i1 i2 i3 = some q) : kMi l yX9_verse wsX9_verse ({ frames := 3, cells := 0, slots := 0, locals := 64 } : Room) D (kTy cI cC cS) [.ref aV, .int i1, .int i2, .int i3] (wVC aV aS xV1 xV2 xV3 xV4 xV5 aY.1 ++ (wSC aS aL.1 aR.1 xS2 ++ (wBK cI aL vL0 vL1 vL2 vL3 ++ (wBK cI aR vR0 vR1 vR2 vR3 ++ wLY cI aY vY0 vY1 vY2 vY3 vY4 vY5 vY6 vY7 vY8 vY9 vY10)))) sz q (wVC aV aS xV1 xV2 xV3 xV4 xV5 aY.1 ++ (wSC aS aL.1 aR.1 xS2 ++ (wBK cI aL vL0 vL1 vL2 vL3 ++ (wBK cI aR vR0 vR1 vR2 vR3 ++ wLY cI aY vY0 vY1 vY2 vY3 vY4 vY5 vY6 vY7 vY8 vY9 vY10)))) := by
  refine Met.ofW (cc := cX9_verse) (maxL := 5) (ret := (some .int)) (by decide) rfl ?_
  intro p e s m args below meth c s₁ B hml hv
  obtain ⟨rfl, hsz, hP, hK, hD0, hN⟩ := hv
  have hx := B.exec
  have hb := B.bytes
  have hr := B.returns
  have hts := atoms_spec (ws := wsX9_verse) B.pre
  have hown : s.vm.findClass RX9 = some m.cls := findClass_of_methodNamed B.named
  have hlocks := B.notSynchronized
  subst hsz
  have hD := hD0.self (sz := s.heap.size)
  generalize hAe : va_A (wVC aV aS xV1 xV2 xV3 xV4 xV5 aY.1 ++ (wSC aS aL.1 aR.1 xS2 ++ (wBK cI aL vL0 vL1 vL2 vL3 ++ (wBK cI aR vR0 vR1 vR2 vR3 ++ wLY cI aY vY0 vY1 vY2 vY3 vY4 vY5 vY6 vY7 vY8 vY9 vY10)))) s.heap.size = A at hD ⊢
  have hA : ∀ q : Nat, s.heap.size ≤ q → A q := fun q h => by rw [← hAe]; exact Or.inr h
  have hS : va_S A s.heap s.heap [] := va_S.rf
  have huX9 : ∀ w ∈ u_ws RX9 TX9 7, w ∈ wsX9_verse := by decide +kernel
  have hl := lv_entry ([.ref aV, .int i1, .int i2, .int i3]) (n := 5) (Nat.le_of_ble_eq_true rfl)
  rw [lg_entry_eq]
  generalize (lg_sl ([.ref aV, .int i1, .int i2, .int i3]) ++ List.replicate (5 - (lg_sl ([.ref aV, .int i1, .int i2, .int i3])).length) Slot.unset).toArray = ls at hl ⊢
  have hl : lv_has ls 5 [(0, .ref aV), (1, .int i1), (2, .int i2), (3, .int i3)] := hl
  unfold pX9_verse at h
  refine lv_aload_n hx hb dX9_verse_0 rfl (lv_at hl 0 rfl) ?_
  refine lv_iload_n hx hb dX9_verse_1 rfl (lv_at hl 1 rfl) ?_
  refine lv_iload_n hx hb dX9_verse_2 rfl (lv_at hl 2 rfl) ?_
  obtain ⟨q2, h1, h⟩ := Option.bind_eq_some_iff.mp h
  refine kcir [0, 1, 2, 3, 4, 5, 6, 7, 8, 9] (va_runV (As := [.int i1, .int i2]) (rest := []) ⟨hx, hb, hml, hown, hts⟩ (kX9_isVerse l D cI cC cS aV xV1 xV2 xV3 xV4 xV5 aY.1 aS xS2 aL vL0 vL1 vL2 vL3 aR vR0 vR1 vR2 vR3 i1 i2 s.heap.size h1) (cwV 2 hts gX9_verse_X9_isVerse rfl rfl rfl (by decide +kernel) ⟨Nat.le_of_ble_eq_true rfl, Nat.le_of_ble_eq_true rfl⟩) (kpreV hK hN hP hD [0, 1, 2, 3, 4, 5, 6, 7, 8, 9] rfl (by decide) 9 rfl rfl) rfl rfl hl.1 rfl (lv_room (Nat.le_of_ble_eq_true rfl)) dX9_verse_3 ⟨Nat.le_refl _, Nat.le_refl _⟩) hP hD hS hA rfl (fun H locs hP hS => ?_)
  refine lv_if_ne (tgt := 11) hx hb dX9_verse_6 (by decide) (fun g => ?_) (fun g => ?_)
  · rw [if_neg g] at h
    refine lv_iload_n hx hb dX9_verse_11 rfl (lv_at hl 3 rfl) ?_
    refine lv_iconst (v := (0 : Int32)) hx hb dX9_verse_12 (by decide) ?_
    refine lv_iconst (v := (4 : Int32)) hx hb dX9_verse_13 (by decide) ?_
    obtain ⟨q4, h3, h⟩ := Option.bind_eq_some_iff.mp h
    refine kcir [] (va_runS (As := [.int i3, .int (0 : Int32), .int (4 : Int32)]) (rest := []) ⟨hx, hb, hml, hown, hts⟩ (kX9_isWithin l D cI cC cS i3 (0 : Int32) (4 : Int32) H.size h3) (cwS 3 hts gX9_verse_X9_isWithin rfl rfl rfl (by decide +kernel) ⟨Nat.le_of_ble_eq_true rfl, Nat.le_of_ble_eq_true rfl⟩) (kpre hK hN hP hD [] rfl (by decide)) rfl rfl hl.1 rfl (lv_room (Nat.le_of_ble_eq_true rfl)) dX9_verse_14 ⟨Nat.le_refl _, Nat.le_refl _⟩) hP hD hS hA rfl (fun H locs hP hS => ?_)
    refine lv_if_ne (tgt := 23) hx hb dX9_verse_17 (by decide) (fun g => ?_) (fun g => ?_)
    · rw [if_neg g] at h
      refine lv_aload_n hx hb dX9_verse_23 rfl (lv_at hl 0 rfl) ?_
      refine va_get (D := D) (ci := 9) (v := .ref aS) (C := RX9) (T := TX9) (N := 7) hx hb hts huX9 hown hK hP 0 rfl rfl 0 (by decide) (hts (.fieldLink RX9 12 "VerseColumns" "state" "LVerseColumns$State;") (by decide +kernel)) (fun _ h9 => h9) rfl dX9_verse_24 ?_
      refine lv_iload_n hx hb dX9_verse_27 rfl (lv_at hl 1 rfl) ?_
      refine kcrr [1] (va_runV (As := [.int i1]) (rest := []) ⟨hx, hb, hml, hown, hts⟩ (kX7_bookOf l D cI cC cS aS aL.1 aR.1 xS2 i1 H.size) (cwV 1 hts gX9_verse_X7_bookOf rfl rfl rfl (by decide +kernel) ⟨Nat.le_of_ble_eq_true rfl, Nat.le_of_ble_eq_true rfl⟩) (kpreV hK hN hP hD [1] rfl (by decide) 7 rfl rfl) rfl rfl hl.1 rfl (lv_room (Nat.le_of_ble_eq_true rfl)) dX9_verse_28 ⟨Nat.le_refl _, Nat.le_refl _⟩) hP hD hS hA rfl (fun H locs hP hS => ?_)
      by_cases g : i1 = 0
      · rw [if_pos g] at h ⊢
        refine lv_astore (lv' := [(4, .ref aL.1), (0, .ref aV), (1, .int i1), (2, .int i2), (3, .int i3)]) hx hb dX9_verse_31 hl (by decide) rfl (fun ls hl => ?_)
        refine lv_iload_n hx hb dX9_verse_33 rfl (lv_at hl 4 rfl) ?_
        by_cases g0 : i3 = 0
        · rw [if_pos g0] at h
          have e : i3.toInt = 0 := by rw [g0]; rfl
          refine lv_tableIn hx hb dX9_verse_34 (off := 30) (tgt := 64) (by rw [e]; decide) (by rw [e]; decide) (by rw [e]; rfl) (by decide) ?_
          refine lv_aload hx hb dX9_verse_64 (lv_at hl 0 rfl) ?_
          refine lv_iload_n hx hb dX9_verse_66 rfl (lv_at hl 3 rfl) ?_
          obtain ⟨q8, h7, h⟩ := Option.bind_eq_some_iff.mp h
          refine kcir [2, 3, 4, 5] (va_runV (As := [.int i2]) (rest := []) ⟨hx, hb, hml, hown, hts⟩ (kX0_chapterOf l D cI cC cS aL vL0 vL1 vL2 vL3 i2 H.size h7) (cwV 1 hts gX9_verse_X0_chapterOf rfl rfl rfl (by decide +kernel) ⟨Nat.le_of_ble_eq_true rfl, Nat.le_of_ble_eq_true rfl⟩) (kpreV hK hN hP hD [2, 3, 4, 5] rfl (by decide) 0 rfl rfl) rfl rfl hl.1 rfl (lv_room (Nat.le_of_ble_eq_true rfl)) dX9_verse_67 ⟨Nat.le_refl _, Nat.le_refl _⟩) hP hD hS hA rfl (fun H locs hP hS => ?_)
          obtain rfl := Option.some.inj h
          exact W.iret (v := q8) hx hb hr (fun t ht hW => ⟨⟨_, (), rfl, rfl, by rw [ht]; exact hP, hD⟩, hS.F ht⟩) hS.2.2 dX9_verse_70
        · rw [if_neg g0] at h
          by_cases g1 : i3 = 1
          · rw [if_pos g1] at h
            have e : i3.toInt = 1 := by rw [g1]; rfl
            refine lv_tableIn hx hb dX9_verse_34 (off := 37) (tgt := 71) (by rw [e]; decide) (by rw [e]; decide) (by rw [e]; rfl) (by decide) ?_
            refine lv_aload hx hb dX9_verse_71 (lv_at hl 0 rfl) ?_
            refine lv_iload_n hx hb dX9_verse_73 rfl (lv_at hl 3 rfl) ?_
            obtain ⟨q10, h9, h⟩ := Option.bind_eq_some_iff.mp h
            refine kcir [2, 3, 4, 5] (va_runV (As := [.int i2]) (rest := []) ⟨hx, hb, hml, hown, hts⟩ (kX0_numberOf l D cI cC cS aL vL0 vL1 vL2 vL3 i2 H.size h9) (cwV 1 hts gX9_verse_X0_numberOf rfl rfl rfl (by decide +kernel) ⟨Nat.le_of_ble_eq_true rfl, Nat.le_of_ble_eq_true rfl⟩) (kpreV hK hN hP hD [2, 3, 4, 5] rfl (by decide) 0 rfl rfl) rfl rfl hl.1 rfl (lv_room (Nat.le_of_ble_eq_true rfl)) dX9_verse_74 ⟨Nat.le_refl _, Nat.le_refl _⟩) hP hD hS hA rfl (fun H locs hP hS => ?_)
            obtain rfl := Option.some.inj h
            exact W.iret (v := q10) hx hb hr (fun t ht hW => ⟨⟨_, (), rfl, rfl, by rw [ht]; exact hP, hD⟩, hS.F ht⟩) hS.2.2 dX9_verse_77
          · rw [if_neg g1] at h
            by_cases g2 : i3 = 2
            · rw [if_pos g2] at h
              have e : i3.toInt = 2 := by rw [g2]; rfl
              refine lv_tableIn hx hb dX9_verse_34 (off := 44) (tgt := 78) (by rw [e]; decide) (by rw [e]; decide) (by rw [e]; rfl) (by decide) ?_
              refine lv_aload hx hb dX9_verse_78 (lv_at hl 0 rfl) ?_
              refine lv_iload_n hx hb dX9_verse_80 rfl (lv_at hl 3 rfl) ?_
              obtain ⟨q12, h11, h⟩ := Option.bind_eq_some_iff.mp h
              refine kcir [2, 3, 4, 5] (va_runV (As := [.int i2]) (rest := []) ⟨hx, hb, hml, hown, hts⟩ (kX0_lettersOf l D cI cC cS aL vL0 vL1 vL2 vL3 i2 H.size h11) (cwV 1 hts gX9_verse_X0_lettersOf rfl rfl rfl (by decide +kernel) ⟨Nat.le_of_ble_eq_true rfl, Nat.le_of_ble_eq_true rfl⟩) (kpreV hK hN hP hD [2, 3, 4, 5] rfl (by decide) 0 rfl rfl) rfl rfl hl.1 rfl (lv_room (Nat.le_of_ble_eq_true rfl)) dX9_verse_81 ⟨Nat.le_refl _, Nat.le_refl _⟩) hP hD hS hA rfl (fun H locs hP hS => ?_)
              obtain rfl := Option.some.inj h
              exact W.iret (v := q12) hx hb hr (fun t ht hW => ⟨⟨_, (), rfl, rfl, by rw [ht]; exact hP, hD⟩, hS.F ht⟩) hS.2.2 dX9_verse_84
            · rw [if_neg g2] at h
              by_cases g3 : i3 = 3
              · rw [if_pos g3] at h
                have e : i3.toInt = 3 := by rw [g3]; rfl
                refine lv_tableIn hx hb dX9_verse_34 (off := 51) (tgt := 85) (by rw [e]; decide) (by rw [e]; decide) (by rw [e]; rfl) (by decide) ?_
                refine lv_aload hx hb dX9_verse_85 (lv_at hl 0 rfl) ?_
                refine lv_iload_n hx hb dX9_verse_87 rfl (lv_at hl 3 rfl) ?_
                obtain ⟨q14, h13, h⟩ := Option.bind_eq_some_iff.mp h
                refine kcir [2, 3, 4, 5] (va_runV (As := [.int i2]) (rest := []) ⟨hx, hb, hml, hown, hts⟩ (kX0_noteOf l D cI cC cS aL vL0 vL1 vL2 vL3 i2 H.size h13) (cwV 1 hts gX9_verse_X0_noteOf rfl rfl rfl (by decide +kernel) ⟨Nat.le_of_ble_eq_true rfl, Nat.le_of_ble_eq_true rfl⟩) (kpreV hK hN hP hD [2, 3, 4, 5] rfl (by decide) 0 rfl rfl) rfl rfl hl.1 rfl (lv_room (Nat.le_of_ble_eq_true rfl)) dX9_verse_88 ⟨Nat.le_refl _, Nat.le_refl _⟩) hP hD hS hA rfl (fun H locs hP hS => ?_)
                obtain rfl := Option.some.inj h
                exact W.iret (v := q14) hx hb hr (fun t ht hW => ⟨⟨_, (), rfl, rfl, by rw [ht]; exact hP, hD⟩, hS.F ht⟩) hS.2.2 dX9_verse_91
              · rw [if_neg g3] at h
                have e0 := lv_neT (a := 0) g0 rfl
                have e1 := lv_neT (a := 1) g1 rfl
                have e2 := lv_neT (a := 2) g2 rfl
                have e3 := lv_neT (a := 3) g3 rfl
                refine lv_tableOut hx hb dX9_verse_34 (tgt := 92) (by omega) (by decide) ?_
                refine lv_aload hx hb dX9_verse_92 (lv_at hl 0 rfl) ?_
                refine lv_iload_n hx hb dX9_verse_94 rfl (lv_at hl 3 rfl) ?_
                obtain ⟨q16, h15, h⟩ := Option.bind_eq_some_iff.mp h
                refine kcir [2, 3, 4, 5] (va_runV (As := [.int i2]) (rest := []) ⟨hx, hb, hml, hown, hts⟩ (kX0_lettersOf l D cI cC cS aL vL0 vL1 vL2 vL3 i2 H.size h15) (cwV 1 hts gX9_verse_X0_lettersOf rfl rfl rfl (by decide +kernel) ⟨Nat.le_of_ble_eq_true rfl, Nat.le_of_ble_eq_true rfl⟩) (kpreV hK hN hP hD [2, 3, 4, 5] rfl (by decide) 0 rfl rfl) rfl rfl hl.1 rfl (lv_room (Nat.le_of_ble_eq_true rfl)) dX9_verse_95 ⟨Nat.le_refl _, Nat.le_refl _⟩) hP hD hS hA rfl (fun H locs hP hS => ?_)
                refine lv_aload_n hx hb dX9_verse_98 rfl (lv_at hl 1 rfl) ?_
                refine va_get (D := D) (ci := 9) (v := .ref aY.1) (C := RX9) (T := TX9) (N := 7) hx hb hts huX9 hown hK hP 0 rfl rfl 6 (by decide) (hts (.fieldLink RX9 54 "VerseColumns" "layout" "LVerseColumns$Layout;") (by decide +kernel)) (fun _ h9 => h9) rfl dX9_verse_99 ?_
                refine lv_iload_n hx hb dX9_verse_102 rfl (lv_at hl 2 rfl) ?_
                obtain ⟨q18, h17, h⟩ := Option.bind_eq_some_iff.mp h
                refine kcir [10, 11, 12, 13, 14] (va_runV (As := [.int i1]) (rest := [.int q16]) ⟨hx, hb, hml, hown, hts⟩ (kX3_widthOf l D cI cC cS aY vY0 vY1 vY2 vY3 vY4 vY5 vY6 vY7 vY8 vY9 vY10 i1 H.size h17) (cwV 1 hts gX9_verse_X3_widthOf rfl rfl rfl (by decide +kernel) ⟨Nat.le_of_ble_eq_true rfl, Nat.le_of_ble_eq_true rfl⟩) (kpreV hK hN hP hD [10, 11, 12, 13, 14] rfl (by decide) 3 rfl rfl) rfl rfl hl.1 rfl (lv_room (Nat.le_of_ble_eq_true rfl)) dX9_verse_103 ⟨Nat.le_refl _, Nat.le_refl _⟩) hP hD hS hA rfl (fun H locs hP hS => ?_)
                obtain ⟨q20, h19, h⟩ := Option.bind_eq_some_iff.mp h
                refine kcir [] (va_runS (As := [.int q16, .int q18]) (rest := []) ⟨hx, hb, hml, hown, hts⟩ (kX9_linesFor l D cI cC cS q16 q18 H.size h19) (cwS 2 hts gX9_verse_X9_linesFor rfl rfl rfl (by decide +kernel) ⟨Nat.le_of_ble_eq_true rfl, Nat.le_of_ble_eq_true rfl⟩) (kpre hK hN hP hD [] rfl (by decide)) rfl rfl hl.1 rfl (lv_room (Nat.le_of_ble_eq_true rfl)) dX9_verse_106 ⟨Nat.le_refl _, Nat.le_refl _⟩) hP hD hS hA rfl (fun H locs hP hS => ?_)
                obtain rfl := Option.some.inj h
                exact W.iret (v := q20) hx hb hr (fun t ht hW => ⟨⟨_, (), rfl, rfl, by rw [ht]; exact hP, hD⟩, hS.F ht⟩) hS.2.2 dX9_verse_109
      · rw [if_neg g] at h ⊢
        refine lv_astore (lv' := [(4, .ref aR.1), (0, .ref aV), (1, .int i1), (2, .int i2), (3, .int i3)]) hx hb dX9_verse_31 hl (by decide) rfl (fun ls hl => ?_)
        refine lv_iload_n hx hb dX9_verse_33 rfl (lv_at hl 4 rfl) ?_
        by_cases g0 : i3 = 0
        · rw [if_pos g0] at h
          have e : i3.toInt = 0 := by rw [g0]; rfl
          refine lv_tableIn hx hb dX9_verse_34 (off := 30) (tgt := 64) (by rw [e]; decide) (by rw [e]; decide) (by rw [e]; rfl) (by decide) ?_
          refine lv_aload hx hb dX9_verse_64 (lv_at hl 0 rfl) ?_
          refine lv_iload_n hx hb dX9_verse_66 rfl (lv_at hl 3 rfl) ?_
          obtain ⟨q22, h21, h⟩ := Option.bind_eq_some_iff.mp h
          refine kcir [6, 7, 8, 9] (va_runV (As := [.int i2]) (rest := []) ⟨hx, hb, hml, hown, hts⟩ (kX0_chapterOf l D cI cC cS aR vR0 vR1 vR2 vR3 i2 H.size h21) (cwV 1 hts gX9_verse_X0_chapterOf rfl rfl rfl (by decide +kernel) ⟨Nat.le_of_ble_eq_true rfl, Nat.le_of_ble_eq_true rfl⟩) (kpreV hK hN hP hD [6, 7, 8, 9] rfl (by decide) 0 rfl rfl) rfl rfl hl.1 rfl (lv_room (Nat.le_of_ble_eq_true rfl)) dX9_verse_67 ⟨Nat.le_refl _, Nat.le_refl _⟩) hP hD hS hA rfl (fun H locs hP hS => ?_)
          obtain rfl := Option.some.inj h
          exact W.iret (v := q22) hx hb hr (fun t ht hW => ⟨⟨_, (), rfl, rfl, by rw [ht]; exact hP, hD⟩, hS.F ht⟩) hS.2.2 dX9_verse_70
        · rw [if_neg g0] at h
          by_cases g1 : i3 = 1
          · rw [if_pos g1] at h
            have e : i3.toInt = 1 := by rw [g1]; rfl
            refine lv_tableIn hx hb dX9_verse_34 (off := 37) (tgt := 71) (by rw [e]; decide) (by rw [e]; decide) (by rw [e]; rfl) (by decide) ?_
            refine lv_aload hx hb dX9_verse_71 (lv_at hl 0 rfl) ?_
            refine lv_iload_n hx hb dX9_verse_73 rfl (lv_at hl 3 rfl) ?_
            obtain ⟨q24, h23, h⟩ := Option.bind_eq_some_iff.mp h
            refine kcir [6, 7, 8, 9] (va_runV (As := [.int i2]) (rest := []) ⟨hx, hb, hml, hown, hts⟩ (kX0_numberOf l D cI cC cS aR vR0 vR1 vR2 vR3 i2 H.size h23) (cwV 1 hts gX9_verse_X0_numberOf rfl rfl rfl (by decide +kernel) ⟨Nat.le_of_ble_eq_true rfl, Nat.le_of_ble_eq_true rfl⟩) (kpreV hK hN hP hD [6, 7, 8, 9] rfl (by decide) 0 rfl rfl) rfl rfl hl.1 rfl (lv_room (Nat.le_of_ble_eq_true rfl)) dX9_verse_74 ⟨Nat.le_refl _, Nat.le_refl _⟩) hP hD hS hA rfl (fun H locs hP hS => ?_)
            obtain rfl := Option.some.inj h
            exact W.iret (v := q24) hx hb hr (fun t ht hW => ⟨⟨_, (), rfl, rfl, by rw [ht]; exact hP, hD⟩, hS.F ht⟩) hS.2.2 dX9_verse_77
          · rw [if_neg g1] at h
            by_cases g2 : i3 = 2
            · rw [if_pos g2] at h
              have e : i3.toInt = 2 := by rw [g2]; rfl
              refine lv_tableIn hx hb dX9_verse_34 (off := 44) (tgt := 78) (by rw [e]; decide) (by rw [e]; decide) (by rw [e]; rfl) (by decide) ?_
              refine lv_aload hx hb dX9_verse_78 (lv_at hl 0 rfl) ?_
              refine lv_iload_n hx hb dX9_verse_80 rfl (lv_at hl 3 rfl) ?_
              obtain ⟨q26, h25, h⟩ := Option.bind_eq_some_iff.mp h
              refine kcir [6, 7, 8, 9] (va_runV (As := [.int i2]) (rest := []) ⟨hx, hb, hml, hown, hts⟩ (kX0_lettersOf l D cI cC cS aR vR0 vR1 vR2 vR3 i2 H.size h25) (cwV 1 hts gX9_verse_X0_lettersOf rfl rfl rfl (by decide +kernel) ⟨Nat.le_of_ble_eq_true rfl, Nat.le_of_ble_eq_true rfl⟩) (kpreV hK hN hP hD [6, 7, 8, 9] rfl (by decide) 0 rfl rfl) rfl rfl hl.1 rfl (lv_room (Nat.le_of_ble_eq_true rfl)) dX9_verse_81 ⟨Nat.le_refl _, Nat.le_refl _⟩) hP hD hS hA rfl (fun H locs hP hS => ?_)
              obtain rfl := Option.some.inj h
              exact W.iret (v := q26) hx hb hr (fun t ht hW => ⟨⟨_, (), rfl, rfl, by rw [ht]; exact hP, hD⟩, hS.F ht⟩) hS.2.2 dX9_verse_84
            · rw [if_neg g2] at h
              by_cases g3 : i3 = 3
              · rw [if_pos g3] at h
                have e : i3.toInt = 3 := by rw [g3]; rfl
                refine lv_tableIn hx hb dX9_verse_34 (off := 51) (tgt := 85) (by rw [e]; decide) (by rw [e]; decide) (by rw [e]; rfl) (by decide) ?_
                refine lv_aload hx hb dX9_verse_85 (lv_at hl 0 rfl) ?_
                refine lv_iload_n hx hb dX9_verse_87 rfl (lv_at hl 3 rfl) ?_
                obtain ⟨q28, h27, h⟩ := Option.bind_eq_some_iff.mp h
                refine kcir [6, 7, 8, 9] (va_runV (As := [.int i2]) (rest := []) ⟨hx, hb, hml, hown, hts⟩ (kX0_noteOf l D cI cC cS aR vR0 vR1 vR2 vR3 i2 H.size h27) (cwV 1 hts gX9_verse_X0_noteOf rfl rfl rfl (by decide +kernel) ⟨Nat.le_of_ble_eq_true rfl, Nat.le_of_ble_eq_true rfl⟩) (kpreV hK hN hP hD [6, 7, 8, 9] rfl (by decide) 0 rfl rfl) rfl rfl hl.1 rfl (lv_room (Nat.le_of_ble_eq_true rfl)) dX9_verse_88 ⟨Nat.le_refl _, Nat.le_refl _⟩) hP hD hS hA rfl (fun H locs hP hS => ?_)
                obtain rfl := Option.some.inj h
                exact W.iret (v := q28) hx hb hr (fun t ht hW => ⟨⟨_, (), rfl, rfl, by rw [ht]; exact hP, hD⟩, hS.F ht⟩) hS.2.2 dX9_verse_91
              · rw [if_neg g3] at h
                have e0 := lv_neT (a := 0) g0 rfl
                have e1 := lv_neT (a := 1) g1 rfl
                have e2 := lv_neT (a := 2) g2 rfl
                have e3 := lv_neT (a := 3) g3 rfl
                refine lv_tableOut hx hb dX9_verse_34 (tgt := 92) (by omega) (by decide) ?_
                refine lv_aload hx hb dX9_verse_92 (lv_at hl 0 rfl) ?_
                refine lv_iload_n hx hb dX9_verse_94 rfl (lv_at hl 3 rfl) ?_
                obtain ⟨q30, h29, h⟩ := Option.bind_eq_some_iff.mp h
                refine kcir [6, 7, 8, 9] (va_runV (As := [.int i2]) (rest := []) ⟨hx, hb, hml, hown, hts⟩ (kX0_lettersOf l D cI cC cS aR vR0 vR1 vR2 vR3 i2 H.size h29) (cwV 1 hts gX9_verse_X0_lettersOf rfl rfl rfl (by decide +kernel) ⟨Nat.le_of_ble_eq_true rfl, Nat.le_of_ble_eq_true rfl⟩) (kpreV hK hN hP hD [6, 7, 8, 9] rfl (by decide) 0 rfl rfl) rfl rfl hl.1 rfl (lv_room (Nat.le_of_ble_eq_true rfl)) dX9_verse_95 ⟨Nat.le_refl _, Nat.le_refl _⟩) hP hD hS hA rfl (fun H locs hP hS => ?_)
                refine lv_aload_n hx hb dX9_verse_98 rfl (lv_at hl 1 rfl) ?_
                refine va_get (D := D) (ci := 9) (v := .ref aY.1) (C := RX9) (T := TX9) (N := 7) hx hb hts huX9 hown hK hP 0 rfl rfl 6 (by decide) (hts (.fieldLink RX9 54 "VerseColumns" "layout" "LVerseColumns$Layout;") (by decide +kernel)) (fun _ h9 => h9) rfl dX9_verse_99 ?_
                refine lv_iload_n hx hb dX9_verse_102 rfl (lv_at hl 2 rfl) ?_
                obtain ⟨q32, h31, h⟩ := Option.bind_eq_some_iff.mp h
                refine kcir [10, 11, 12, 13, 14] (va_runV (As := [.int i1]) (rest := [.int q30]) ⟨hx, hb, hml, hown, hts⟩ (kX3_widthOf l D cI cC cS aY vY0 vY1 vY2 vY3 vY4 vY5 vY6 vY7 vY8 vY9 vY10 i1 H.size h31) (cwV 1 hts gX9_verse_X3_widthOf rfl rfl rfl (by decide +kernel) ⟨Nat.le_of_ble_eq_true rfl, Nat.le_of_ble_eq_true rfl⟩) (kpreV hK hN hP hD [10, 11, 12, 13, 14] rfl (by decide) 3 rfl rfl) rfl rfl hl.1 rfl (lv_room (Nat.le_of_ble_eq_true rfl)) dX9_verse_103 ⟨Nat.le_refl _, Nat.le_refl _⟩) hP hD hS hA rfl (fun H locs hP hS => ?_)
                obtain ⟨q34, h33, h⟩ := Option.bind_eq_some_iff.mp h
                refine kcir [] (va_runS (As := [.int q30, .int q32]) (rest := []) ⟨hx, hb, hml, hown, hts⟩ (kX9_linesFor l D cI cC cS q30 q32 H.size h33) (cwS 2 hts gX9_verse_X9_linesFor rfl rfl rfl (by decide +kernel) ⟨Nat.le_of_ble_eq_true rfl, Nat.le_of_ble_eq_true rfl⟩) (kpre hK hN hP hD [] rfl (by decide)) rfl rfl hl.1 rfl (lv_room (Nat.le_of_ble_eq_true rfl)) dX9_verse_106 ⟨Nat.le_refl _, Nat.le_refl _⟩) hP hD hS hA rfl (fun H locs hP hS => ?_)
                obtain rfl := Option.some.inj h
                exact W.iret (v := q34) hx hb hr (fun t ht hW => ⟨⟨_, (), rfl, rfl, by rw [ht]; exact hP, hD⟩, hS.F ht⟩) hS.2.2 dX9_verse_109
    · rw [if_pos g] at h
      refine lv_bipush (v := (-2 : Int32)) hx hb dX9_verse_20 (by decide) ?_
      obtain rfl := Option.some.inj h
      exact W.iret (v := (-2 : Int32)) hx hb hr (fun t ht hW => ⟨⟨_, (), rfl, rfl, by rw [ht]; exact hP, hD⟩, hS.F ht⟩) hS.2.2 dX9_verse_22
  · rw [if_pos g] at h
    refine lv_iconst (v := (-1 : Int32)) hx hb dX9_verse_9 (by decide) ?_
    obtain rfl := Option.some.inj h
    exact W.iret (v := (-1 : Int32)) hx hb hr (fun t ht hW => ⟨⟨_, (), rfl, rfl, by rw [ht]; exact hP, hD⟩, hS.F ht⟩) hS.2.2 dX9_verse_10
