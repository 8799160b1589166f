-- walks: vc (printed by wip/whole/gen)
set_option maxHeartbeats 8000000 in
set_option maxRecDepth 100000 in
theorem kX9_isVerse (l : Launch) (D : va_G) (cI cC cS : ClassId) (aV : Nat) (xV1 : Nat) (xV2 : Nat) (xV3 : Nat) (xV4 : Nat) (xV5 : Nat) (xV6 : Nat) (aS : Nat) (xS2 : Nat) (aL : Nat × Nat × Nat × Nat) (vL0 : (Nat → Int32)) (vL1 : (Nat → Int32)) (vL2 : (Nat → Int32)) (vL3 : Int32) (aR : Nat × Nat × Nat × Nat) (vR0 : (Nat → Int32)) (vR1 : (Nat → Int32)) (vR2 : (Nat → Int32)) (vR3 : Int32) (i1 : Int32) (i2 : Int32) (sz : Nat) {q : Int32} (h : pX9_isVerse vL3 vR3 i1 i2 = some q) : kMi l yX9_isVerse wsX9_isVerse ({ frames := 1, cells := 0, slots := 0, locals := 21 } : Room) D (kTy cI cC cS) [.ref aV, .int i1, .int i2] (wVC aV aS xV1 xV2 xV3 xV4 xV5 xV6 ++ (wSC aS aL.1 aR.1 xS2 ++ (wBK cI aL vL0 vL1 vL2 vL3 ++ wBK cI aR vR0 vR1 vR2 vR3))) sz q (wVC aV aS xV1 xV2 xV3 xV4 xV5 xV6 ++ (wSC aS aL.1 aR.1 xS2 ++ (wBK cI aL vL0 vL1 vL2 vL3 ++ wBK cI aR vR0 vR1 vR2 vR3))) := by
  refine Met.ofW (cc := cX9_isVerse) (maxL := 3) (ret := (some .boolean)) (by decide) rfl ?_
  intro p e s m args below meth c s₁ B hml hv
  obtain ⟨rfl, hsz, hP, hK, hD0, hN⟩ := hv
  have hx := B.exec
  have hb := B.bytes
  have hr := B.returns
  have hts := atoms_spec (ws := wsX9_isVerse) B.pre
  have hown : s.vm.findClass RX9 = some m.cls := findClass_of_methodNamed B.named
  have hlocks := B.notSynchronized
  subst hsz
  have hD := hD0.self (sz := s.heap.size)
  generalize hAe : va_A (wVC aV aS xV1 xV2 xV3 xV4 xV5 xV6 ++ (wSC aS aL.1 aR.1 xS2 ++ (wBK cI aL vL0 vL1 vL2 vL3 ++ wBK cI aR vR0 vR1 vR2 vR3))) s.heap.size = A at hD ⊢
  have hA : ∀ q : Nat, s.heap.size ≤ q → A q := fun q h => by rw [← hAe]; exact Or.inr h
  have hS : va_S A s.heap s.heap [] := va_S.rf
  have huX9 : ∀ w ∈ u_ws RX9 TX9 7, w ∈ wsX9_isVerse := by decide +kernel
  have hl := lv_entry ([.ref aV, .int i1, .int i2]) (n := 3) (Nat.le_of_ble_eq_true rfl)
  rw [lg_entry_eq]
  generalize (lg_sl ([.ref aV, .int i1, .int i2]) ++ List.replicate (3 - (lg_sl ([.ref aV, .int i1, .int i2])).length) Slot.unset).toArray = ls at hl ⊢
  have hl : lv_has ls 3 [(0, .ref aV), (1, .int i1), (2, .int i2)] := hl
  unfold pX9_isVerse at h
  refine lv_iload_n hx hb dX9_isVerse_0 rfl (lv_at hl 1 rfl) ?_
  obtain ⟨q2, h1, h⟩ := Option.bind_eq_some_iff.mp h
  refine kcir [] (va_runS (As := [.int i1]) (rest := []) ⟨hx, hb, hml, hown, hts⟩ (kX9_isBook l D cI cC cS i1 s.heap.size h1) (cwS 1 hts gX9_isVerse_X9_isBook rfl rfl rfl (by decide +kernel) ⟨Nat.le_of_ble_eq_true rfl, Nat.le_of_ble_eq_true rfl⟩) (kpre hK hN hP hD [] rfl (by decide)) rfl rfl hl.1 rfl (lv_room (Nat.le_of_ble_eq_true rfl)) dX9_isVerse_1 ⟨Nat.le_refl _, Nat.le_refl _⟩) hP hD hS hA rfl (fun H locs hP hS => ?_)
  refine lv_if_eq (tgt := 26) hx hb dX9_isVerse_4 (by decide) (fun g => ?_) (fun g => ?_)
  · rw [if_pos g] at h
    refine lv_iconst (v := (0 : Int32)) hx hb dX9_isVerse_26 (by decide) ?_
    obtain rfl := Option.some.inj h
    exact W.zret (v := (0 : Int32)) hx hb hr rfl (fun t ht hW => ⟨⟨_, (), rfl, rfl, by rw [ht]; exact hP, hD⟩, hS.F ht⟩) hS.2.2 dX9_isVerse_27
  · rw [if_neg g] at h
    refine lv_aload_n hx hb dX9_isVerse_7 rfl (lv_at hl 0 rfl) ?_
    refine va_get (D := D) (ci := 9) (v := .ref aS) (C := RX9) (T := TX9) (N := 7) hx hb hts huX9 hown hK hP 0 rfl rfl 0 (by decide) (hts (.fieldLink RX9 12 "VerseColumns" "state" "LVerseColumns$State;") (by decide +kernel)) (fun _ h9 => h9) rfl dX9_isVerse_8 ?_
    refine lv_iload_n hx hb dX9_isVerse_11 rfl (lv_at hl 1 rfl) ?_
    refine kcrr [1] (va_runV (As := [.int i1]) (rest := []) ⟨hx, hb, hml, hown, hts⟩ (kX7_bookOf l D cI cC cS aS aL.1 aR.1 xS2 i1 H.size) (cwV 1 hts gX9_isVerse_X7_bookOf rfl rfl rfl (by decide +kernel) ⟨Nat.le_of_ble_eq_true rfl, Nat.le_of_ble_eq_true rfl⟩) (kpreV hK hN hP hD [1] rfl (by decide) 7 rfl rfl) rfl rfl hl.1 rfl (lv_room (Nat.le_of_ble_eq_true rfl)) dX9_isVerse_12 ⟨Nat.le_refl _, Nat.le_refl _⟩) hP hD hS hA rfl (fun H locs hP hS => ?_)
    by_cases g : i1 = 0
    · rw [if_pos g] at h ⊢
      refine lv_iload_n hx hb dX9_isVerse_15 rfl (lv_at hl 2 rfl) ?_
      obtain ⟨q6, h5, h⟩ := Option.bind_eq_some_iff.mp h
      refine kcir [2, 3, 4, 5] (va_runV (As := [.int i2]) (rest := []) ⟨hx, hb, hml, hown, hts⟩ (kX0_has l D cI cC cS aL vL0 vL1 vL2 vL3 i2 H.size h5) (cwV 1 hts gX9_isVerse_X0_has rfl rfl rfl (by decide +kernel) ⟨Nat.le_of_ble_eq_true rfl, Nat.le_of_ble_eq_true rfl⟩) (kpreV hK hN hP hD [2, 3, 4, 5] rfl (by decide) 0 rfl rfl) rfl rfl hl.1 rfl (lv_room (Nat.le_of_ble_eq_true rfl)) dX9_isVerse_16 ⟨Nat.le_refl _, Nat.le_refl _⟩) hP hD hS hA rfl (fun H locs hP hS => ?_)
      refine lv_if_eq (tgt := 26) hx hb dX9_isVerse_19 (by decide) (fun g => ?_) (fun g => ?_)
      · rw [if_pos g] at h
        refine lv_iconst (v := (0 : Int32)) hx hb dX9_isVerse_26 (by decide) ?_
        obtain rfl := Option.some.inj h
        exact W.zret (v := (0 : Int32)) hx hb hr rfl (fun t ht hW => ⟨⟨_, (), rfl, rfl, by rw [ht]; exact hP, hD⟩, hS.F ht⟩) hS.2.2 dX9_isVerse_27
      · rw [if_neg g] at h
        refine lv_iconst (v := (1 : Int32)) hx hb dX9_isVerse_22 (by decide) ?_
        refine lv_goto (tgt := 27) hx hb dX9_isVerse_23 (by decide) ?_
        obtain rfl := Option.some.inj h
        exact W.zret (v := (1 : Int32)) hx hb hr rfl (fun t ht hW => ⟨⟨_, (), rfl, rfl, by rw [ht]; exact hP, hD⟩, hS.F ht⟩) hS.2.2 dX9_isVerse_27
    · rw [if_neg g] at h ⊢
      refine lv_iload_n hx hb dX9_isVerse_15 rfl (lv_at hl 2 rfl) ?_
      obtain ⟨q8, h7, h⟩ := Option.bind_eq_some_iff.mp h
      refine kcir [6, 7, 8, 9] (va_runV (As := [.int i2]) (rest := []) ⟨hx, hb, hml, hown, hts⟩ (kX0_has l D cI cC cS aR vR0 vR1 vR2 vR3 i2 H.size h7) (cwV 1 hts gX9_isVerse_X0_has rfl rfl rfl (by decide +kernel) ⟨Nat.le_of_ble_eq_true rfl, Nat.le_of_ble_eq_true rfl⟩) (kpreV hK hN hP hD [6, 7, 8, 9] rfl (by decide) 0 rfl rfl) rfl rfl hl.1 rfl (lv_room (Nat.le_of_ble_eq_true rfl)) dX9_isVerse_16 ⟨Nat.le_refl _, Nat.le_refl _⟩) hP hD hS hA rfl (fun H locs hP hS => ?_)
      refine lv_if_eq (tgt := 26) hx hb dX9_isVerse_19 (by decide) (fun g => ?_) (fun g => ?_)
      · rw [if_pos g] at h
        refine lv_iconst (v := (0 : Int32)) hx hb dX9_isVerse_26 (by decide) ?_
        obtain rfl := Option.some.inj h
        exact W.zret (v := (0 : Int32)) hx hb hr rfl (fun t ht hW => ⟨⟨_, (), rfl, rfl, by rw [ht]; exact hP, hD⟩, hS.F ht⟩) hS.2.2 dX9_isVerse_27
      · rw [if_neg g] at h
        refine lv_iconst (v := (1 : Int32)) hx hb dX9_isVerse_22 (by decide) ?_
        refine lv_goto (tgt := 27) hx hb dX9_isVerse_23 (by decide) ?_
        obtain rfl := Option.some.inj h
        exact W.zret (v := (1 : Int32)) hx hb hr rfl (fun t ht hW => ⟨⟨_, (), rfl, rfl, by rw [ht]; exact hP, hD⟩, hS.F ht⟩) hS.2.2 dX9_isVerse_27
set_option maxHeartbeats 8000000 in
set_option maxRecDepth 100000 in
theorem kX9_firstVerseOrNone (l : Launch) (D : va_G) (cI cC cS : ClassId) (aV : Nat) (xV1 : Nat) (xV2 : Nat) (xV3 : Nat) (xV4 : Nat) (xV5 : Nat) (xV6 : Nat) (aS : Nat) (xS0 : Nat) (xS1 : Nat) (aM : Nat × Nat × Nat) (vM0 : (Nat → Int32)) (vM1 : (Nat → Int32)) (vM2 : Int32) (i1 : Int32) (i2 : Int32) (sz : Nat) {q : Int32} (h : pX9_firstVerseOrNone vM0 vM1 vM2 i1 i2 = some q) : kMi l yX9_firstVerseOrNone wsX9_firstVerseOrNone ({ frames := 3, cells := 0, slots := 0, locals := 67 } : Room) D (kTy cI cC cS) [.ref aV, .int i1, .int i2] (wVC aV aS xV1 xV2 xV3 xV4 xV5 xV6 ++ (wSC aS xS0 xS1 aM.1 ++ wMP cI aM vM0 vM1 vM2)) sz q (wVC aV aS xV1 xV2 xV3 xV4 xV5 xV6 ++ (wSC aS xS0 xS1 aM.1 ++ wMP cI aM vM0 vM1 vM2)) := by
  refine Met.ofW (cc := cX9_firstVerseOrNone) (maxL := 3) (ret := (some .int)) (by decide) rfl ?_
  intro p e s m args below meth c s₁ B hml hv
  obtain ⟨rfl, hsz, hP, hK, hD0, hN⟩ := hv
  have hx := B.exec
  have hb := B.bytes
  have hr := B.returns
  have hts := atoms_spec (ws := wsX9_firstVerseOrNone) B.pre
  have hown : s.vm.findClass RX9 = some m.cls := findClass_of_methodNamed B.named
  have hlocks := B.notSynchronized
  subst hsz
  have hD := hD0.self (sz := s.heap.size)
  generalize hAe : va_A (wVC aV aS xV1 xV2 xV3 xV4 xV5 xV6 ++ (wSC aS xS0 xS1 aM.1 ++ wMP cI aM vM0 vM1 vM2)) s.heap.size = A at hD ⊢
  have hA : ∀ q : Nat, s.heap.size ≤ q → A q := fun q h => by rw [← hAe]; exact Or.inr h
  have hS : va_S A s.heap s.heap [] := va_S.rf
  have huX7 : ∀ w ∈ u_ws RX7 TX7 3, w ∈ wsX9_firstVerseOrNone := by decide +kernel
  have huX9 : ∀ w ∈ u_ws RX9 TX9 7, w ∈ wsX9_firstVerseOrNone := by decide +kernel
  have hl := lv_entry ([.ref aV, .int i1, .int i2]) (n := 3) (Nat.le_of_ble_eq_true rfl)
  rw [lg_entry_eq]
  generalize (lg_sl ([.ref aV, .int i1, .int i2]) ++ List.replicate (3 - (lg_sl ([.ref aV, .int i1, .int i2])).length) Slot.unset).toArray = ls at hl ⊢
  have hl : lv_has ls 3 [(0, .ref aV), (1, .int i1), (2, .int i2)] := hl
  unfold pX9_firstVerseOrNone at h
  refine lv_aload_n hx hb dX9_firstVerseOrNone_0 rfl (lv_at hl 0 rfl) ?_
  refine va_get (D := D) (ci := 9) (v := .ref aS) (C := RX9) (T := TX9) (N := 7) hx hb hts huX9 hown hK hP 0 rfl rfl 0 (by decide) (hts (.fieldLink RX9 12 "VerseColumns" "state" "LVerseColumns$State;") (by decide +kernel)) (fun _ h9 => h9) rfl dX9_firstVerseOrNone_1 ?_
  refine va_getN (D := D) (ci := 7) (v := .ref aM.1) (C := RX7) (T := TX7) (N := 3) hx hb hts huX7 hown hK hP 1 rfl rfl 2 (by decide) (hN.f 11 rfl) (fun _ h9 => h9) rfl dX9_firstVerseOrNone_4 ?_
  refine lv_iload_n hx hb dX9_firstVerseOrNone_7 rfl (lv_at hl 1 rfl) ?_
  refine lv_iload_n hx hb dX9_firstVerseOrNone_8 rfl (lv_at hl 2 rfl) ?_
  obtain ⟨q2, h1, h⟩ := Option.bind_eq_some_iff.mp h
  refine kcir [2, 3, 4] (va_runV (As := [.int i1, .int i2]) (rest := []) ⟨hx, hb, hml, hown, hts⟩ (kX1_sizeOf l D cI cC cS aM vM0 vM1 vM2 i1 i2 s.heap.size h1) (cwV 2 hts gX9_firstVerseOrNone_X1_sizeOf rfl rfl rfl (by decide +kernel) ⟨Nat.le_of_ble_eq_true rfl, Nat.le_of_ble_eq_true rfl⟩) (kpreV hK hN hP hD [2, 3, 4] rfl (by decide) 1 rfl rfl) rfl rfl hl.1 rfl (lv_room (Nat.le_of_ble_eq_true rfl)) dX9_firstVerseOrNone_9 ⟨Nat.le_refl _, Nat.le_refl _⟩) hP hD hS hA rfl (fun H locs hP hS => ?_)
  refine lv_if_ne (tgt := 20) hx hb dX9_firstVerseOrNone_12 (by decide) (fun g => ?_) (fun g => ?_)
  · rw [if_neg g] at h
    refine lv_aload_n hx hb dX9_firstVerseOrNone_20 rfl (lv_at hl 0 rfl) ?_
    refine va_get (D := D) (ci := 9) (v := .ref aS) (C := RX9) (T := TX9) (N := 7) hx hb hts huX9 hown hK hP 0 rfl rfl 0 (by decide) (hts (.fieldLink RX9 12 "VerseColumns" "state" "LVerseColumns$State;") (by decide +kernel)) (fun _ h9 => h9) rfl dX9_firstVerseOrNone_21 ?_
    refine va_getN (D := D) (ci := 7) (v := .ref aM.1) (C := RX7) (T := TX7) (N := 3) hx hb hts huX7 hown hK hP 1 rfl rfl 2 (by decide) (hN.f 11 rfl) (fun _ h9 => h9) rfl dX9_firstVerseOrNone_24 ?_
    refine lv_iload_n hx hb dX9_firstVerseOrNone_27 rfl (lv_at hl 1 rfl) ?_
    refine lv_iload_n hx hb dX9_firstVerseOrNone_28 rfl (lv_at hl 2 rfl) ?_
    obtain ⟨q4, h3, h⟩ := Option.bind_eq_some_iff.mp h
    refine kcir [2, 3, 4] (va_runV (As := [.int i1, .int i2]) (rest := []) ⟨hx, hb, hml, hown, hts⟩ (kX1_firstOf l D cI cC cS aM vM0 vM1 vM2 i1 i2 H.size h3) (cwV 2 hts gX9_firstVerseOrNone_X1_firstOf rfl rfl rfl (by decide +kernel) ⟨Nat.le_of_ble_eq_true rfl, Nat.le_of_ble_eq_true rfl⟩) (kpreV hK hN hP hD [2, 3, 4] rfl (by decide) 1 rfl rfl) rfl rfl hl.1 rfl (lv_room (Nat.le_of_ble_eq_true rfl)) dX9_firstVerseOrNone_29 ⟨Nat.le_refl _, Nat.le_refl _⟩) hP hD hS hA rfl (fun H locs hP hS => ?_)
    obtain rfl := Option.some.inj h
    exact W.iret (v := q4) hx hb hr (fun t ht hW => ⟨⟨_, (), rfl, rfl, by rw [ht]; exact hP, hD⟩, hS.F ht⟩) hS.2.2 dX9_firstVerseOrNone_32
  · rw [if_pos g] at h
    refine lv_bipush (v := (-5 : Int32)) hx hb dX9_firstVerseOrNone_15 (by decide) ?_
    refine lv_goto (tgt := 32) hx hb dX9_firstVerseOrNone_17 (by decide) ?_
    obtain rfl := Option.some.inj h
    exact W.iret (v := (-5 : Int32)) hx hb hr (fun t ht hW => ⟨⟨_, (), rfl, rfl, by rw [ht]; exact hP, hD⟩, hS.F ht⟩) hS.2.2 dX9_firstVerseOrNone_32
set_option maxHeartbeats 8000000 in
set_option maxRecDepth 100000 in
theorem kX9_addChapter (l : Launch) (D : va_G) (cI cC cS : ClassId) (aV : Nat) (xV2 : Nat) (xV3 : Nat) (xV4 : Nat) (xV5 : Nat) (xV6 : Nat) (aS : Nat) (aL : Nat × Nat × Nat × Nat) (vL0 : (Nat → Int32)) (vL1 : (Nat → Int32)) (vL2 : (Nat → Int32)) (vL3 : Int32) (aR : Nat × Nat × Nat × Nat) (vR0 : (Nat → Int32)) (vR1 : (Nat → Int32)) (vR2 : (Nat → Int32)) (vR3 : Int32) (aM : Nat × Nat × Nat) (vM0 : (Nat → Int32)) (vM1 : (Nat → Int32)) (vM2 : Int32) (aH : aHI) (vH0 : Int32) (vH2 : vST) (vH3 : vST) (vH4 : vST) (vH5 : vST) (vH6 : vST) (i1 : Int32) (i2 : Int32) (i3 : Int32) (sz : Nat) {q : Int32 × (Nat → Int32) × (Nat → Int32) × (Nat → Int32) × Int32 × (Nat → Int32) × (Nat → Int32) × (Nat → Int32) × Int32 × (Nat → Int32) × (Nat → Int32) × Int32 × Int32 × Nat × vST × vST × vST × vST × vST} (h : pX9_addChapter vL0 vL1 vL2 vL3 vR0 vR1 vR2 vR3 vM0 vM1 vM2 vH0 vH2 vH3 vH4 vH5 vH6 i1 i2 i3 = some q) : kMi l yX9_addChapter wsX9_addChapter ({ frames := 6, cells := 0, slots := 0, locals := 140 } : Room) D (kTy cI cC cS) [.ref aV, .int i1, .int i2, .int i3] (wVC aV aS aH.1 xV2 xV3 xV4 xV5 xV6 ++ (wSC aS aL.1 aR.1 aM.1 ++ (wBK cI aL vL0 vL1 vL2 vL3 ++ (wBK cI aR vR0 vR1 vR2 vR3 ++ (wMP cI aM vM0 vM1 vM2 ++ wHI cI cS aH vH0 0 vH2 vH3 vH4 vH5 vH6))))) sz q.1 (wVC aV aS aH.1 xV2 xV3 xV4 xV5 xV6 ++ (wSC aS aL.1 aR.1 aM.1 ++ (wBK cI aL q.2.1 q.2.2.1 q.2.2.2.1 q.2.2.2.2.1 ++ (wBK cI aR q.2.2.2.2.2.1 q.2.2.2.2.2.2.1 q.2.2.2.2.2.2.2.1 q.2.2.2.2.2.2.2.2.1 ++ (wMP cI aM q.2.2.2.2.2.2.2.2.2.1 q.2.2.2.2.2.2.2.2.2.2.1 q.2.2.2.2.2.2.2.2.2.2.2.1 ++ wHI cI cS aH q.2.2.2.2.2.2.2.2.2.2.2.2.1 q.2.2.2.2.2.2.2.2.2.2.2.2.2.1 q.2.2.2.2.2.2.2.2.2.2.2.2.2.2.1 q.2.2.2.2.2.2.2.2.2.2.2.2.2.2.2.1 q.2.2.2.2.2.2.2.2.2.2.2.2.2.2.2.2.1 q.2.2.2.2.2.2.2.2.2.2.2.2.2.2.2.2.2.1 q.2.2.2.2.2.2.2.2.2.2.2.2.2.2.2.2.2.2))))) := by
  refine Met.ofW (cc := cX9_addChapter) (maxL := 7) (ret := (some .int)) (by decide) rfl ?_
  intro p e s m args below meth c s₁ B hml hv
  obtain ⟨rfl, hsz, hP, hK, hD0, hN⟩ := hv
  have hx := B.exec
  have hb := B.bytes
  have hr := B.returns
  have hts := atoms_spec (ws := wsX9_addChapter) B.pre
  have hown : s.vm.findClass RX9 = some m.cls := findClass_of_methodNamed B.named
  have hlocks := B.notSynchronized
  subst hsz
  have hD := hD0.self (sz := s.heap.size)
  generalize hAe : va_A (wVC aV aS aH.1 xV2 xV3 xV4 xV5 xV6 ++ (wSC aS aL.1 aR.1 aM.1 ++ (wBK cI aL vL0 vL1 vL2 vL3 ++ (wBK cI aR vR0 vR1 vR2 vR3 ++ (wMP cI aM vM0 vM1 vM2 ++ wHI cI cS aH vH0 0 vH2 vH3 vH4 vH5 vH6))))) s.heap.size = A at hD ⊢
  have hA : ∀ q : Nat, s.heap.size ≤ q → A q := fun q h => by rw [← hAe]; exact Or.inr h
  have hS : va_S A s.heap s.heap [] := va_S.rf
  have huX0 : ∀ w ∈ u_ws RX0 TX0 4, w ∈ wsX9_addChapter := by decide +kernel
  have huX7 : ∀ w ∈ u_ws RX7 TX7 3, w ∈ wsX9_addChapter := by decide +kernel
  have huX9 : ∀ w ∈ u_ws RX9 TX9 7, w ∈ wsX9_addChapter := by decide +kernel
  have hl := lv_entry ([.ref aV, .int i1, .int i2, .int i3]) (n := 7) (Nat.le_of_ble_eq_true rfl)
  rw [lg_entry_eq]
  generalize (lg_sl ([.ref aV, .int i1, .int i2, .int i3]) ++ List.replicate (7 - (lg_sl ([.ref aV, .int i1, .int i2, .int i3])).length) Slot.unset).toArray = ls at hl ⊢
  have hl : lv_has ls 7 [(0, .ref aV), (1, .int i1), (2, .int i2), (3, .int i3)] := hl
  have L88 : ∀ (nL88 : Nat) (c2_0 : (Nat → Int32)) (c2_1 : (Nat → Int32)) (c2_2 : (Nat → Int32)) (c2_3 : Int32) (c3_0 : (Nat → Int32)) (c3_1 : (Nat → Int32)) (c3_2 : (Nat → Int32)) (c3_3 : Int32) (c4_0 : (Nat → Int32)) (c4_1 : (Nat → Int32)) (c4_2 : Int32) (c5_0 : Int32) (c5_1 : Nat) (c5_2 : vST) (c5_3 : vST) (c5_4 : vST) (c5_5 : vST) (c5_6 : vST) (y1 : Int32) (y2 : Int32) (y3 : Int32) (y5 : Int32) (y6 : Int32) (H : Heap) (locs : List Loc) (ls : Array Slot), pX9_addChapter_L88  nL88 c2_0 c2_1 c2_2 c2_3 c3_0 c3_1 c3_2 c3_3 c4_0 c4_1 c4_2 c5_0 c5_1 c5_2 c5_3 c5_4 c5_5 c5_6 y1 y2 y3 y5 y6 = some q → va_P D vwCl (wVC aV aS aH.1 xV2 xV3 xV4 xV5 xV6 ++ (wSC aS aL.1 aR.1 aM.1 ++ (wBK cI aL c2_0 c2_1 c2_2 c2_3 ++ (wBK cI aR c3_0 c3_1 c3_2 c3_3 ++ (wMP cI aM c4_0 c4_1 c4_2 ++ wHI cI cS aH c5_0 c5_1 c5_2 c5_3 c5_4 c5_5 c5_6))))) H → va_D A (wVC aV aS aH.1 xV2 xV3 xV4 xV5 xV6 ++ (wSC aS aL.1 aR.1 aM.1 ++ (wBK cI aL c2_0 c2_1 c2_2 c2_3 ++ (wBK cI aR c3_0 c3_1 c3_2 c3_3 ++ (wMP cI aM c4_0 c4_1 c4_2 ++ wHI cI cS aH c5_0 c5_1 c5_2 c5_3 c5_4 c5_5 c5_6))))) → va_S A s.heap H locs → lv_has ls 7 [(0, .ref aV), (1, .int y1), (2, .int y2), (3, .int y3), (4, .ref aL.1), (5, .int y5), (6, .int y6)] → W p l e ({ frames := 6, cells := 0, slots := 0, locals := 140 } : Room) s m ([.ref aV, .int i1, .int i2, .int i3] : List Value).toArray below meth c H locs 0 0 (MQ below (va_Qi (fun (r : Int32) (_ : Unit) => r = q.1) (fun _ => kPost D (wVC aV aS aH.1 xV2 xV3 xV4 xV5 xV6 ++ (wSC aS aL.1 aR.1 aM.1 ++ (wBK cI aL q.2.1 q.2.2.1 q.2.2.2.1 q.2.2.2.2.1 ++ (wBK cI aR q.2.2.2.2.2.1 q.2.2.2.2.2.2.1 q.2.2.2.2.2.2.2.1 q.2.2.2.2.2.2.2.2.1 ++ (wMP cI aM q.2.2.2.2.2.2.2.2.2.1 q.2.2.2.2.2.2.2.2.2.2.1 q.2.2.2.2.2.2.2.2.2.2.2.1 ++ wHI cI cS aH q.2.2.2.2.2.2.2.2.2.2.2.2.1 q.2.2.2.2.2.2.2.2.2.2.2.2.2.1 q.2.2.2.2.2.2.2.2.2.2.2.2.2.2.1 q.2.2.2.2.2.2.2.2.2.2.2.2.2.2.2.1 q.2.2.2.2.2.2.2.2.2.2.2.2.2.2.2.2.1 q.2.2.2.2.2.2.2.2.2.2.2.2.2.2.2.2.2.1 q.2.2.2.2.2.2.2.2.2.2.2.2.2.2.2.2.2.2))))) A) A) ([.ref aV, .int i1, .int i2, .int i3] : List Value).toArray s 0 0 A) (F0 m 88 ls []) := by
    clear h hP hD hS hl
    intro nL88
    induction nL88 with
    | zero => intro c2_0 c2_1 c2_2 c2_3 c3_0 c3_1 c3_2 c3_3 c4_0 c4_1 c4_2 c5_0 c5_1 c5_2 c5_3 c5_4 c5_5 c5_6 y1 y2 y3 y5 y6 H locs ls h; have h : (none : Option (Int32 × (Nat → Int32) × (Nat → Int32) × (Nat → Int32) × Int32 × (Nat → Int32) × (Nat → Int32) × (Nat → Int32) × Int32 × (Nat → Int32) × (Nat → Int32) × Int32 × Int32 × Nat × vST × vST × vST × vST × vST)) = some q := h; cases h
    | succ nL88 ihL88 =>
      have j134 : ∀ (c2_0 : (Nat → Int32)) (c2_1 : (Nat → Int32)) (c2_2 : (Nat → Int32)) (c2_3 : Int32) (c3_0 : (Nat → Int32)) (c3_1 : (Nat → Int32)) (c3_2 : (Nat → Int32)) (c3_3 : Int32) (c4_0 : (Nat → Int32)) (c4_1 : (Nat → Int32)) (c4_2 : Int32) (c5_0 : Int32) (c5_1 : Nat) (c5_2 : vST) (c5_3 : vST) (c5_4 : vST) (c5_5 : vST) (c5_6 : vST) (y1 : Int32) (y2 : Int32) (y3 : Int32) (y5 : Int32) (y6 : Int32) (t1 : Int32) (t2 : Int32) (H : Heap) (locs : List Loc) (ls : Array Slot), pX9_addChapter_j134 (pX9_addChapter_L88  nL88) c2_0 c2_1 c2_2 c2_3 c3_0 c3_1 c3_2 c3_3 c4_0 c4_1 c4_2 c5_0 c5_1 c5_2 c5_3 c5_4 c5_5 c5_6 y1 y2 y3 y5 y6 t1 t2 = some q → va_P D vwCl (wVC aV aS aH.1 xV2 xV3 xV4 xV5 xV6 ++ (wSC aS aL.1 aR.1 aM.1 ++ (wBK cI aL c2_0 c2_1 c2_2 c2_3 ++ (wBK cI aR c3_0 c3_1 c3_2 c3_3 ++ (wMP cI aM c4_0 c4_1 c4_2 ++ wHI cI cS aH c5_0 c5_1 c5_2 c5_3 c5_4 c5_5 c5_6))))) H → va_D A (wVC aV aS aH.1 xV2 xV3 xV4 xV5 xV6 ++ (wSC aS aL.1 aR.1 aM.1 ++ (wBK cI aL c2_0 c2_1 c2_2 c2_3 ++ (wBK cI aR c3_0 c3_1 c3_2 c3_3 ++ (wMP cI aM c4_0 c4_1 c4_2 ++ wHI cI cS aH c5_0 c5_1 c5_2 c5_3 c5_4 c5_5 c5_6))))) → va_S A s.heap H locs → lv_has ls 7 [(0, .ref aV), (1, .int y1), (2, .int y2), (3, .int y3), (4, .ref aL.1), (5, .int y5), (6, .int y6)] → W p l e ({ frames := 6, cells := 0, slots := 0, locals := 140 } : Room) s m ([.ref aV, .int i1, .int i2, .int i3] : List Value).toArray below meth c H locs 0 0 (MQ below (va_Qi (fun (r : Int32) (_ : Unit) => r = q.1) (fun _ => kPost D (wVC aV aS aH.1 xV2 xV3 xV4 xV5 xV6 ++ (wSC aS aL.1 aR.1 aM.1 ++ (wBK cI aL q.2.1 q.2.2.1 q.2.2.2.1 q.2.2.2.2.1 ++ (wBK cI aR q.2.2.2.2.2.1 q.2.2.2.2.2.2.1 q.2.2.2.2.2.2.2.1 q.2.2.2.2.2.2.2.2.1 ++ (wMP cI aM q.2.2.2.2.2.2.2.2.2.1 q.2.2.2.2.2.2.2.2.2.2.1 q.2.2.2.2.2.2.2.2.2.2.2.1 ++ wHI cI cS aH q.2.2.2.2.2.2.2.2.2.2.2.2.1 q.2.2.2.2.2.2.2.2.2.2.2.2.2.1 q.2.2.2.2.2.2.2.2.2.2.2.2.2.2.1 q.2.2.2.2.2.2.2.2.2.2.2.2.2.2.2.1 q.2.2.2.2.2.2.2.2.2.2.2.2.2.2.2.2.1 q.2.2.2.2.2.2.2.2.2.2.2.2.2.2.2.2.2.1 q.2.2.2.2.2.2.2.2.2.2.2.2.2.2.2.2.2.2))))) A) A) ([.ref aV, .int i1, .int i2, .int i3] : List Value).toArray s 0 0 A) (F0 m 134 ls [.int t2, .int t1, .ref aM.1]) := by
        skip
        intro c2_0 c2_1 c2_2 c2_3 c3_0 c3_1 c3_2 c3_3 c4_0 c4_1 c4_2 c5_0 c5_1 c5_2 c5_3 c5_4 c5_5 c5_6 y1 y2 y3 y5 y6 t1 t2 H locs ls h hP hD hS hl
        unfold pX9_addChapter_j134 at h
        obtain ⟨q16, h15, h⟩ := Option.bind_eq_some_iff.mp h
        refine kcvw (ws' := (wVC aV aS aH.1 xV2 xV3 xV4 xV5 xV6 ++ (wSC aS aL.1 aR.1 aM.1 ++ (wBK cI aL c2_0 c2_1 c2_2 c2_3 ++ (wBK cI aR c3_0 c3_1 c3_2 c3_3 ++ (wMP cI aM q16.1 q16.2.1 q16.2.2 ++ wHI cI cS aH c5_0 c5_1 c5_2 c5_3 c5_4 c5_5 c5_6)))))) [10, 11, 12] (va_runV (As := [.int t1, .int t2]) (rest := []) ⟨hx, hb, hml, hown, hts⟩ (kX1_append l D cI cC cS aM c4_0 c4_1 c4_2 t1 t2 H.size h15) (cwV 2 hts gX9_addChapter_X1_append rfl rfl rfl (by decide +kernel) ⟨Nat.le_of_ble_eq_true rfl, Nat.le_of_ble_eq_true rfl⟩) (kpreV hK hN hP hD [10, 11, 12] rfl (by decide) 1 rfl rfl) rfl rfl hl.1 rfl (lv_room (Nat.le_of_ble_eq_true rfl)) dX9_addChapter_134 ⟨Nat.le_refl _, Nat.le_refl _⟩) hP hD hS hA rfl (by decide) rfl [0, 0, 0, 0, 0, 0, 0, 0, 0, 0, 1, 2, 3, 0, 0, 0, 0, 0, 0, 0, 0, 0, 0, 0, 0, 0, 0, 0, 0, 0, 0, 0, 0, 0, 0, 0, 0, 0, 0, 0, 0, 0, 0, 0, 0, 0, 0, 0, 0, 0, 0, 0, 0, 0, 0, 0, 0, 0, 0, 0, 0, 0, 0, 0, 0, 0, 0, 0, 0, 0, 0, 0, 0, 0, 0] (by decide +kernel) rfl (fun H locs hP hD hS => ?_)
        refine lv_iinc (v := (y6 + (1 : Int32))) (lv' := [(6, .int (y6 + (1 : Int32))), (0, .ref aV), (1, .int y1), (2, .int y2), (3, .int y3), (4, .ref aL.1), (5, .int y5)]) hx hb dX9_addChapter_137 hl (k := 6) rfl rfl (by decide) rfl (fun ls hl => ?_)
        refine lv_goto (tgt := 88) hx hb dX9_addChapter_140 (by decide) ?_
        exact ihL88 c2_0 c2_1 c2_2 c2_3 c3_0 c3_1 c3_2 c3_3 q16.1 q16.2.1 q16.2.2 c5_0 c5_1 c5_2 c5_3 c5_4 c5_5 c5_6 y1 y2 y3 y5 (y6 + (1 : Int32)) _ _ _ h hP hD hS (lv_sub hl [1, 2, 3, 4, 5, 6, 0] rfl)
      have j124 : ∀ (c2_0 : (Nat → Int32)) (c2_1 : (Nat → Int32)) (c2_2 : (Nat → Int32)) (c2_3 : Int32) (c3_0 : (Nat → Int32)) (c3_1 : (Nat → Int32)) (c3_2 : (Nat → Int32)) (c3_3 : Int32) (c4_0 : (Nat → Int32)) (c4_1 : (Nat → Int32)) (c4_2 : Int32) (c5_0 : Int32) (c5_1 : Nat) (c5_2 : vST) (c5_3 : vST) (c5_4 : vST) (c5_5 : vST) (c5_6 : vST) (y1 : Int32) (y2 : Int32) (y3 : Int32) (y5 : Int32) (y6 : Int32) (t1 : Int32) (H : Heap) (locs : List Loc) (ls : Array Slot), pX9_addChapter_j124 (pX9_addChapter_L88  nL88) c2_0 c2_1 c2_2 c2_3 c3_0 c3_1 c3_2 c3_3 c4_0 c4_1 c4_2 c5_0 c5_1 c5_2 c5_3 c5_4 c5_5 c5_6 y1 y2 y3 y5 y6 t1 = some q → va_P D vwCl (wVC aV aS aH.1 xV2 xV3 xV4 xV5 xV6 ++ (wSC aS aL.1 aR.1 aM.1 ++ (wBK cI aL c2_0 c2_1 c2_2 c2_3 ++ (wBK cI aR c3_0 c3_1 c3_2 c3_3 ++ (wMP cI aM c4_0 c4_1 c4_2 ++ wHI cI cS aH c5_0 c5_1 c5_2 c5_3 c5_4 c5_5 c5_6))))) H → va_D A (wVC aV aS aH.1 xV2 xV3 xV4 xV5 xV6 ++ (wSC aS aL.1 aR.1 aM.1 ++ (wBK cI aL c2_0 c2_1 c2_2 c2_3 ++ (wBK cI aR c3_0 c3_1 c3_2 c3_3 ++ (wMP cI aM c4_0 c4_1 c4_2 ++ wHI cI cS aH c5_0 c5_1 c5_2 c5_3 c5_4 c5_5 c5_6))))) → va_S A s.heap H locs → lv_has ls 7 [(0, .ref aV), (1, .int y1), (2, .int y2), (3, .int y3), (4, .ref aL.1), (5, .int y5), (6, .int y6)] → W p l e ({ frames := 6, cells := 0, slots := 0, locals := 140 } : Room) s m ([.ref aV, .int i1, .int i2, .int i3] : List Value).toArray below meth c H locs 0 0 (MQ below (va_Qi (fun (r : Int32) (_ : Unit) => r = q.1) (fun _ => kPost D (wVC aV aS aH.1 xV2 xV3 xV4 xV5 xV6 ++ (wSC aS aL.1 aR.1 aM.1 ++ (wBK cI aL q.2.1 q.2.2.1 q.2.2.2.1 q.2.2.2.2.1 ++ (wBK cI aR q.2.2.2.2.2.1 q.2.2.2.2.2.2.1 q.2.2.2.2.2.2.2.1 q.2.2.2.2.2.2.2.2.1 ++ (wMP cI aM q.2.2.2.2.2.2.2.2.2.1 q.2.2.2.2.2.2.2.2.2.2.1 q.2.2.2.2.2.2.2.2.2.2.2.1 ++ wHI cI cS aH q.2.2.2.2.2.2.2.2.2.2.2.2.1 q.2.2.2.2.2.2.2.2.2.2.2.2.2.1 q.2.2.2.2.2.2.2.2.2.2.2.2.2.2.1 q.2.2.2.2.2.2.2.2.2.2.2.2.2.2.2.1 q.2.2.2.2.2.2.2.2.2.2.2.2.2.2.2.2.1 q.2.2.2.2.2.2.2.2.2.2.2.2.2.2.2.2.2.1 q.2.2.2.2.2.2.2.2.2.2.2.2.2.2.2.2.2.2))))) A) A) ([.ref aV, .int i1, .int i2, .int i3] : List Value).toArray s 0 0 A) (F0 m 124 ls [.int t1, .ref aM.1]) := by
        skip
        intro c2_0 c2_1 c2_2 c2_3 c3_0 c3_1 c3_2 c3_3 c4_0 c4_1 c4_2 c5_0 c5_1 c5_2 c5_3 c5_4 c5_5 c5_6 y1 y2 y3 y5 y6 t1 H locs ls h hP hD hS hl
        unfold pX9_addChapter_j124 at h
        refine lv_iload_n hx hb dX9_addChapter_124 rfl (lv_at hl 1 rfl) ?_
        refine lv_iconst (v := (1 : Int32)) hx hb dX9_addChapter_125 (by decide) ?_
        refine lv_icmp_ne (tgt := 133) hx hb dX9_addChapter_126 (by decide) (fun g => ?_) (fun g => ?_)
        · rw [if_neg g] at h
          refine lv_iconst (v := (0 : Int32)) hx hb dX9_addChapter_133 (by decide) ?_
          exact j134 c2_0 c2_1 c2_2 c2_3 c3_0 c3_1 c3_2 c3_3 c4_0 c4_1 c4_2 c5_0 c5_1 c5_2 c5_3 c5_4 c5_5 c5_6 y1 y2 y3 y5 y6 t1 (0 : Int32) _ _ _ h hP hD hS (lv_sub hl [0, 1, 2, 3, 4, 5, 6] rfl)
        · rw [if_pos g] at h
          refine lv_iconst (v := (1 : Int32)) hx hb dX9_addChapter_129 (by decide) ?_
          refine lv_goto (tgt := 134) hx hb dX9_addChapter_130 (by decide) ?_
          exact j134 c2_0 c2_1 c2_2 c2_3 c3_0 c3_1 c3_2 c3_3 c4_0 c4_1 c4_2 c5_0 c5_1 c5_2 c5_3 c5_4 c5_5 c5_6 y1 y2 y3 y5 y6 t1 (1 : Int32) _ _ _ h hP hD hS (lv_sub hl [0, 1, 2, 3, 4, 5, 6] rfl)
      intro c2_0 c2_1 c2_2 c2_3 c3_0 c3_1 c3_2 c3_3 c4_0 c4_1 c4_2 c5_0 c5_1 c5_2 c5_3 c5_4 c5_5 c5_6 y1 y2 y3 y5 y6 H locs ls h hP hD hS hl
      have h : pX9_addChapter_bL88 (pX9_addChapter_L88  nL88) c2_0 c2_1 c2_2 c2_3 c3_0 c3_1 c3_2 c3_3 c4_0 c4_1 c4_2 c5_0 c5_1 c5_2 c5_3 c5_4 c5_5 c5_6 y1 y2 y3 y5 y6 = some q := h
      unfold pX9_addChapter_bL88 at h
      refine lv_iload hx hb dX9_addChapter_88 (lv_at hl 6 rfl) ?_
      refine lv_iload_n hx hb dX9_addChapter_90 rfl (lv_at hl 2 rfl) ?_
      refine lv_icmp_ge (tgt := 143) hx hb dX9_addChapter_91 (by decide) (fun g => ?_) (fun g => ?_)
      · rw [if_pos g] at h
        refine lv_iload hx hb dX9_addChapter_143 (lv_at hl 5 rfl) ?_
        obtain rfl := Option.some.inj h
        exact W.iret (v := y5) hx hb hr (fun t ht hW => ⟨⟨_, (), rfl, rfl, by rw [ht]; exact hP, hD⟩, hS.F ht⟩) hS.2.2 dX9_addChapter_145
      · rw [if_neg g] at h
        refine lv_aload hx hb dX9_addChapter_94 (lv_at hl 4 rfl) ?_
        refine lv_aload hx hb dX9_addChapter_96 (lv_at hl 4 rfl) ?_
        refine va_getN (D := D) (ci := 0) (v := .int c2_3) (C := RX0) (T := TX0) (N := 4) hx hb hts huX0 hown hK hP 2 rfl rfl 3 (by decide) (hN.f 1 rfl) (fun _ h9 => h9) rfl dX9_addChapter_98 ?_
        refine lv_iload hx hb dX9_addChapter_101 (lv_at hl 5 rfl) ?_
        refine lv_iload_n hx hb dX9_addChapter_103 rfl (lv_at hl 3 rfl) ?_
        refine lv_iconst (v := (0 : Int32)) hx hb dX9_addChapter_104 (by decide) ?_
        obtain ⟨q14, h13, h⟩ := Option.bind_eq_some_iff.mp h
        refine kcvw (ws' := (wVC aV aS aH.1 xV2 xV3 xV4 xV5 xV6 ++ (wSC aS aL.1 aR.1 aM.1 ++ (wBK cI aL q14.1 q14.2.1 q14.2.2.1 q14.2.2.2 ++ (wBK cI aR c3_0 c3_1 c3_2 c3_3 ++ (wMP cI aM c4_0 c4_1 c4_2 ++ wHI cI cS aH c5_0 c5_1 c5_2 c5_3 c5_4 c5_5 c5_6)))))) [2, 3, 4, 5] (va_runV (As := [.int c2_3, .int y5, .int y3, .int (0 : Int32)]) (rest := []) ⟨hx, hb, hml, hown, hts⟩ (kX0_insertAt l D cI cC cS aL c2_0 c2_1 c2_2 c2_3 c2_3 y5 y3 (0 : Int32) H.size h13) (cwV 4 hts gX9_addChapter_X0_insertAt rfl rfl rfl (by decide +kernel) ⟨Nat.le_of_ble_eq_true rfl, Nat.le_of_ble_eq_true rfl⟩) (kpreV hK hN hP hD [2, 3, 4, 5] rfl (by decide) 0 rfl rfl) rfl rfl hl.1 rfl (lv_room (Nat.le_of_ble_eq_true rfl)) dX9_addChapter_105 ⟨Nat.le_refl _, Nat.le_refl _⟩) hP hD hS hA rfl (by decide) rfl [0, 0, 1, 2, 3, 4, 0, 0, 0, 0, 0, 0, 0, 0, 0, 0, 0, 0, 0, 0, 0, 0, 0, 0, 0, 0, 0, 0, 0, 0, 0, 0, 0, 0, 0, 0, 0, 0, 0, 0, 0, 0, 0, 0, 0, 0, 0, 0, 0, 0, 0, 0, 0, 0, 0, 0, 0, 0, 0, 0, 0, 0, 0, 0, 0, 0, 0, 0, 0, 0, 0, 0, 0, 0, 0] (by decide +kernel) rfl (fun H locs hP hD hS => ?_)
        refine lv_aload_n hx hb dX9_addChapter_108 rfl (lv_at hl 0 rfl) ?_
        refine va_get (D := D) (ci := 9) (v := .ref aS) (C := RX9) (T := TX9) (N := 7) hx hb hts huX9 hown hK hP 0 rfl rfl 0 (by decide) (hts (.fieldLink RX9 12 "VerseColumns" "state" "LVerseColumns$State;") (by decide +kernel)) (fun _ h9 => h9) rfl dX9_addChapter_109 ?_
        refine va_getN (D := D) (ci := 7) (v := .ref aM.1) (C := RX7) (T := TX7) (N := 3) hx hb hts huX7 hown hK hP 1 rfl rfl 2 (by decide) (hN.f 11 rfl) (fun _ h9 => h9) rfl dX9_addChapter_112 ?_
        refine lv_iload_n hx hb dX9_addChapter_115 rfl (lv_at hl 1 rfl) ?_
        refine lv_if_ne (tgt := 123) hx hb dX9_addChapter_116 (by decide) (fun g => ?_) (fun g => ?_)
        · rw [if_neg g] at h
          refine lv_iconst (v := (0 : Int32)) hx hb dX9_addChapter_123 (by decide) ?_
          exact j124 q14.1 q14.2.1 q14.2.2.1 q14.2.2.2 c3_0 c3_1 c3_2 c3_3 c4_0 c4_1 c4_2 c5_0 c5_1 c5_2 c5_3 c5_4 c5_5 c5_6 y1 y2 y3 y5 y6 (0 : Int32) _ _ _ h hP hD hS (lv_sub hl [0, 1, 2, 3, 4, 5, 6] rfl)
        · rw [if_pos g] at h
          refine lv_iconst (v := (1 : Int32)) hx hb dX9_addChapter_119 (by decide) ?_
          refine lv_goto (tgt := 124) hx hb dX9_addChapter_120 (by decide) ?_
          exact j124 q14.1 q14.2.1 q14.2.2.1 q14.2.2.2 c3_0 c3_1 c3_2 c3_3 c4_0 c4_1 c4_2 c5_0 c5_1 c5_2 c5_3 c5_4 c5_5 c5_6 y1 y2 y3 y5 y6 (1 : Int32) _ _ _ h hP hD hS (lv_sub hl [0, 1, 2, 3, 4, 5, 6] rfl)
  have L88a : ∀ (nL88a : Nat) (c2_0 : (Nat → Int32)) (c2_1 : (Nat → Int32)) (c2_2 : (Nat → Int32)) (c2_3 : Int32) (c3_0 : (Nat → Int32)) (c3_1 : (Nat → Int32)) (c3_2 : (Nat → Int32)) (c3_3 : Int32) (c4_0 : (Nat → Int32)) (c4_1 : (Nat → Int32)) (c4_2 : Int32) (c5_0 : Int32) (c5_1 : Nat) (c5_2 : vST) (c5_3 : vST) (c5_4 : vST) (c5_5 : vST) (c5_6 : vST) (y1 : Int32) (y2 : Int32) (y3 : Int32) (y5 : Int32) (y6 : Int32) (H : Heap) (locs : List Loc) (ls : Array Slot), pX9_addChapter_L88a  nL88a c2_0 c2_1 c2_2 c2_3 c3_0 c3_1 c3_2 c3_3 c4_0 c4_1 c4_2 c5_0 c5_1 c5_2 c5_3 c5_4 c5_5 c5_6 y1 y2 y3 y5 y6 = some q → va_P D vwCl (wVC aV aS aH.1 xV2 xV3 xV4 xV5 xV6 ++ (wSC aS aL.1 aR.1 aM.1 ++ (wBK cI aL c2_0 c2_1 c2_2 c2_3 ++ (wBK cI aR c3_0 c3_1 c3_2 c3_3 ++ (wMP cI aM c4_0 c4_1 c4_2 ++ wHI cI cS aH c5_0 c5_1 c5_2 c5_3 c5_4 c5_5 c5_6))))) H → va_D A (wVC aV aS aH.1 xV2 xV3 xV4 xV5 xV6 ++ (wSC aS aL.1 aR.1 aM.1 ++ (wBK cI aL c2_0 c2_1 c2_2 c2_3 ++ (wBK cI aR c3_0 c3_1 c3_2 c3_3 ++ (wMP cI aM c4_0 c4_1 c4_2 ++ wHI cI cS aH c5_0 c5_1 c5_2 c5_3 c5_4 c5_5 c5_6))))) → va_S A s.heap H locs → lv_has ls 7 [(0, .ref aV), (1, .int y1), (2, .int y2), (3, .int y3), (4, .ref aR.1), (5, .int y5), (6, .int y6)] → W p l e ({ frames := 6, cells := 0, slots := 0, locals := 140 } : Room) s m ([.ref aV, .int i1, .int i2, .int i3] : List Value).toArray below meth c H locs 0 0 (MQ below (va_Qi (fun (r : Int32) (_ : Unit) => r = q.1) (fun _ => kPost D (wVC aV aS aH.1 xV2 xV3 xV4 xV5 xV6 ++ (wSC aS aL.1 aR.1 aM.1 ++ (wBK cI aL q.2.1 q.2.2.1 q.2.2.2.1 q.2.2.2.2.1 ++ (wBK cI aR q.2.2.2.2.2.1 q.2.2.2.2.2.2.1 q.2.2.2.2.2.2.2.1 q.2.2.2.2.2.2.2.2.1 ++ (wMP cI aM q.2.2.2.2.2.2.2.2.2.1 q.2.2.2.2.2.2.2.2.2.2.1 q.2.2.2.2.2.2.2.2.2.2.2.1 ++ wHI cI cS aH q.2.2.2.2.2.2.2.2.2.2.2.2.1 q.2.2.2.2.2.2.2.2.2.2.2.2.2.1 q.2.2.2.2.2.2.2.2.2.2.2.2.2.2.1 q.2.2.2.2.2.2.2.2.2.2.2.2.2.2.2.1 q.2.2.2.2.2.2.2.2.2.2.2.2.2.2.2.2.1 q.2.2.2.2.2.2.2.2.2.2.2.2.2.2.2.2.2.1 q.2.2.2.2.2.2.2.2.2.2.2.2.2.2.2.2.2.2))))) A) A) ([.ref aV, .int i1, .int i2, .int i3] : List Value).toArray s 0 0 A) (F0 m 88 ls []) := by
    clear h hP hD hS hl
    intro nL88a
    induction nL88a with
    | zero => intro c2_0 c2_1 c2_2 c2_3 c3_0 c3_1 c3_2 c3_3 c4_0 c4_1 c4_2 c5_0 c5_1 c5_2 c5_3 c5_4 c5_5 c5_6 y1 y2 y3 y5 y6 H locs ls h; have h : (none : Option (Int32 × (Nat → Int32) × (Nat → Int32) × (Nat → Int32) × Int32 × (Nat → Int32) × (Nat → Int32) × (Nat → Int32) × Int32 × (Nat → Int32) × (Nat → Int32) × Int32 × Int32 × Nat × vST × vST × vST × vST × vST)) = some q := h; cases h
    | succ nL88a ihL88a =>
      have j134a : ∀ (c2_0 : (Nat → Int32)) (c2_1 : (Nat → Int32)) (c2_2 : (Nat → Int32)) (c2_3 : Int32) (c3_0 : (Nat → Int32)) (c3_1 : (Nat → Int32)) (c3_2 : (Nat → Int32)) (c3_3 : Int32) (c4_0 : (Nat → Int32)) (c4_1 : (Nat → Int32)) (c4_2 : Int32) (c5_0 : Int32) (c5_1 : Nat) (c5_2 : vST) (c5_3 : vST) (c5_4 : vST) (c5_5 : vST) (c5_6 : vST) (y1 : Int32) (y2 : Int32) (y3 : Int32) (y5 : Int32) (y6 : Int32) (t1 : Int32) (t2 : Int32) (H : Heap) (locs : List Loc) (ls : Array Slot), pX9_addChapter_j134a (pX9_addChapter_L88a  nL88a) c2_0 c2_1 c2_2 c2_3 c3_0 c3_1 c3_2 c3_3 c4_0 c4_1 c4_2 c5_0 c5_1 c5_2 c5_3 c5_4 c5_5 c5_6 y1 y2 y3 y5 y6 t1 t2 = some q → va_P D vwCl (wVC aV aS aH.1 xV2 xV3 xV4 xV5 xV6 ++ (wSC aS aL.1 aR.1 aM.1 ++ (wBK cI aL c2_0 c2_1 c2_2 c2_3 ++ (wBK cI aR c3_0 c3_1 c3_2 c3_3 ++ (wMP cI aM c4_0 c4_1 c4_2 ++ wHI cI cS aH c5_0 c5_1 c5_2 c5_3 c5_4 c5_5 c5_6))))) H → va_D A (wVC aV aS aH.1 xV2 xV3 xV4 xV5 xV6 ++ (wSC aS aL.1 aR.1 aM.1 ++ (wBK cI aL c2_0 c2_1 c2_2 c2_3 ++ (wBK cI aR c3_0 c3_1 c3_2 c3_3 ++ (wMP cI aM c4_0 c4_1 c4_2 ++ wHI cI cS aH c5_0 c5_1 c5_2 c5_3 c5_4 c5_5 c5_6))))) → va_S A s.heap H locs → lv_has ls 7 [(0, .ref aV), (1, .int y1), (2, .int y2), (3, .int y3), (4, .ref aR.1), (5, .int y5), (6, .int y6)] → W p l e ({ frames := 6, cells := 0, slots := 0, locals := 140 } : Room) s m ([.ref aV, .int i1, .int i2, .int i3] : List Value).toArray below meth c H locs 0 0 (MQ below (va_Qi (fun (r : Int32) (_ : Unit) => r = q.1) (fun _ => kPost D (wVC aV aS aH.1 xV2 xV3 xV4 xV5 xV6 ++ (wSC aS aL.1 aR.1 aM.1 ++ (wBK cI aL q.2.1 q.2.2.1 q.2.2.2.1 q.2.2.2.2.1 ++ (wBK cI aR q.2.2.2.2.2.1 q.2.2.2.2.2.2.1 q.2.2.2.2.2.2.2.1 q.2.2.2.2.2.2.2.2.1 ++ (wMP cI aM q.2.2.2.2.2.2.2.2.2.1 q.2.2.2.2.2.2.2.2.2.2.1 q.2.2.2.2.2.2.2.2.2.2.2.1 ++ wHI cI cS aH q.2.2.2.2.2.2.2.2.2.2.2.2.1 q.2.2.2.2.2.2.2.2.2.2.2.2.2.1 q.2.2.2.2.2.2.2.2.2.2.2.2.2.2.1 q.2.2.2.2.2.2.2.2.2.2.2.2.2.2.2.1 q.2.2.2.2.2.2.2.2.2.2.2.2.2.2.2.2.1 q.2.2.2.2.2.2.2.2.2.2.2.2.2.2.2.2.2.1 q.2.2.2.2.2.2.2.2.2.2.2.2.2.2.2.2.2.2))))) A) A) ([.ref aV, .int i1, .int i2, .int i3] : List Value).toArray s 0 0 A) (F0 m 134 ls [.int t2, .int t1, .ref aM.1]) := by
        skip
        intro c2_0 c2_1 c2_2 c2_3 c3_0 c3_1 c3_2 c3_3 c4_0 c4_1 c4_2 c5_0 c5_1 c5_2 c5_3 c5_4 c5_5 c5_6 y1 y2 y3 y5 y6 t1 t2 H locs ls h hP hD hS hl
        unfold pX9_addChapter_j134a at h
        obtain ⟨q24, h23, h⟩ := Option.bind_eq_some_iff.mp h
        refine kcvw (ws' := (wVC aV aS aH.1 xV2 xV3 xV4 xV5 xV6 ++ (wSC aS aL.1 aR.1 aM.1 ++ (wBK cI aL c2_0 c2_1 c2_2 c2_3 ++ (wBK cI aR c3_0 c3_1 c3_2 c3_3 ++ (wMP cI aM q24.1 q24.2.1 q24.2.2 ++ wHI cI cS aH c5_0 c5_1 c5_2 c5_3 c5_4 c5_5 c5_6)))))) [10, 11, 12] (va_runV (As := [.int t1, .int t2]) (rest := []) ⟨hx, hb, hml, hown, hts⟩ (kX1_append l D cI cC cS aM c4_0 c4_1 c4_2 t1 t2 H.size h23) (cwV 2 hts gX9_addChapter_X1_append rfl rfl rfl (by decide +kernel) ⟨Nat.le_of_ble_eq_true rfl, Nat.le_of_ble_eq_true rfl⟩) (kpreV hK hN hP hD [10, 11, 12] rfl (by decide) 1 rfl rfl) rfl rfl hl.1 rfl (lv_room (Nat.le_of_ble_eq_true rfl)) dX9_addChapter_134 ⟨Nat.le_refl _, Nat.le_refl _⟩) hP hD hS hA rfl (by decide) rfl [0, 0, 0, 0, 0, 0, 0, 0, 0, 0, 1, 2, 3, 0, 0, 0, 0, 0, 0, 0, 0, 0, 0, 0, 0, 0, 0, 0, 0, 0, 0, 0, 0, 0, 0, 0, 0, 0, 0, 0, 0, 0, 0, 0, 0, 0, 0, 0, 0, 0, 0, 0, 0, 0, 0, 0, 0, 0, 0, 0, 0, 0, 0, 0, 0, 0, 0, 0, 0, 0, 0, 0, 0, 0, 0] (by decide +kernel) rfl (fun H locs hP hD hS => ?_)
        refine lv_iinc (v := (y6 + (1 : Int32))) (lv' := [(6, .int (y6 + (1 : Int32))), (0, .ref aV), (1, .int y1), (2, .int y2), (3, .int y3), (4, .ref aR.1), (5, .int y5)]) hx hb dX9_addChapter_137 hl (k := 6) rfl rfl (by decide) rfl (fun ls hl => ?_)
        refine lv_goto (tgt := 88) hx hb dX9_addChapter_140 (by decide) ?_
        exact ihL88a c2_0 c2_1 c2_2 c2_3 c3_0 c3_1 c3_2 c3_3 q24.1 q24.2.1 q24.2.2 c5_0 c5_1 c5_2 c5_3 c5_4 c5_5 c5_6 y1 y2 y3 y5 (y6 + (1 : Int32)) _ _ _ h hP hD hS (lv_sub hl [1, 2, 3, 4, 5, 6, 0] rfl)
      have j124a : ∀ (c2_0 : (Nat → Int32)) (c2_1 : (Nat → Int32)) (c2_2 : (Nat → Int32)) (c2_3 : Int32) (c3_0 : (Nat → Int32)) (c3_1 : (Nat → Int32)) (c3_2 : (Nat → Int32)) (c3_3 : Int32) (c4_0 : (Nat → Int32)) (c4_1 : (Nat → Int32)) (c4_2 : Int32) (c5_0 : Int32) (c5_1 : Nat) (c5_2 : vST) (c5_3 : vST) (c5_4 : vST) (c5_5 : vST) (c5_6 : vST) (y1 : Int32) (y2 : Int32) (y3 : Int32) (y5 : Int32) (y6 : Int32) (t1 : Int32) (H : Heap) (locs : List Loc) (ls : Array Slot), pX9_addChapter_j124a (pX9_addChapter_L88a  nL88a) c2_0 c2_1 c2_2 c2_3 c3_0 c3_1 c3_2 c3_3 c4_0 c4_1 c4_2 c5_0 c5_1 c5_2 c5_3 c5_4 c5_5 c5_6 y1 y2 y3 y5 y6 t1 = some q → va_P D vwCl (wVC aV aS aH.1 xV2 xV3 xV4 xV5 xV6 ++ (wSC aS aL.1 aR.1 aM.1 ++ (wBK cI aL c2_0 c2_1 c2_2 c2_3 ++ (wBK cI aR c3_0 c3_1 c3_2 c3_3 ++ (wMP cI aM c4_0 c4_1 c4_2 ++ wHI cI cS aH c5_0 c5_1 c5_2 c5_3 c5_4 c5_5 c5_6))))) H → va_D A (wVC aV aS aH.1 xV2 xV3 xV4 xV5 xV6 ++ (wSC aS aL.1 aR.1 aM.1 ++ (wBK cI aL c2_0 c2_1 c2_2 c2_3 ++ (wBK cI aR c3_0 c3_1 c3_2 c3_3 ++ (wMP cI aM c4_0 c4_1 c4_2 ++ wHI cI cS aH c5_0 c5_1 c5_2 c5_3 c5_4 c5_5 c5_6))))) → va_S A s.heap H locs → lv_has ls 7 [(0, .ref aV), (1, .int y1), (2, .int y2), (3, .int y3), (4, .ref aR.1), (5, .int y5), (6, .int y6)] → W p l e ({ frames := 6, cells := 0, slots := 0, locals := 140 } : Room) s m ([.ref aV, .int i1, .int i2, .int i3] : List Value).toArray below meth c H locs 0 0 (MQ below (va_Qi (fun (r : Int32) (_ : Unit) => r = q.1) (fun _ => kPost D (wVC aV aS aH.1 xV2 xV3 xV4 xV5 xV6 ++ (wSC aS aL.1 aR.1 aM.1 ++ (wBK cI aL q.2.1 q.2.2.1 q.2.2.2.1 q.2.2.2.2.1 ++ (wBK cI aR q.2.2.2.2.2.1 q.2.2.2.2.2.2.1 q.2.2.2.2.2.2.2.1 q.2.2.2.2.2.2.2.2.1 ++ (wMP cI aM q.2.2.2.2.2.2.2.2.2.1 q.2.2.2.2.2.2.2.2.2.2.1 q.2.2.2.2.2.2.2.2.2.2.2.1 ++ wHI cI cS aH q.2.2.2.2.2.2.2.2.2.2.2.2.1 q.2.2.2.2.2.2.2.2.2.2.2.2.2.1 q.2.2.2.2.2.2.2.2.2.2.2.2.2.2.1 q.2.2.2.2.2.2.2.2.2.2.2.2.2.2.2.1 q.2.2.2.2.2.2.2.2.2.2.2.2.2.2.2.2.1 q.2.2.2.2.2.2.2.2.2.2.2.2.2.2.2.2.2.1 q.2.2.2.2.2.2.2.2.2.2.2.2.2.2.2.2.2.2))))) A) A) ([.ref aV, .int i1, .int i2, .int i3] : List Value).toArray s 0 0 A) (F0 m 124 ls [.int t1, .ref aM.1]) := by
        skip
        intro c2_0 c2_1 c2_2 c2_3 c3_0 c3_1 c3_2 c3_3 c4_0 c4_1 c4_2 c5_0 c5_1 c5_2 c5_3 c5_4 c5_5 c5_6 y1 y2 y3 y5 y6 t1 H locs ls h hP hD hS hl
        unfold pX9_addChapter_j124a at h
        refine lv_iload_n hx hb dX9_addChapter_124 rfl (lv_at hl 1 rfl) ?_
        refine lv_iconst (v := (1 : Int32)) hx hb dX9_addChapter_125 (by decide) ?_
        refine lv_icmp_ne (tgt := 133) hx hb dX9_addChapter_126 (by decide) (fun g => ?_) (fun g => ?_)
        · rw [if_neg g] at h
          refine lv_iconst (v := (0 : Int32)) hx hb dX9_addChapter_133 (by decide) ?_
          exact j134a c2_0 c2_1 c2_2 c2_3 c3_0 c3_1 c3_2 c3_3 c4_0 c4_1 c4_2 c5_0 c5_1 c5_2 c5_3 c5_4 c5_5 c5_6 y1 y2 y3 y5 y6 t1 (0 : Int32) _ _ _ h hP hD hS (lv_sub hl [0, 1, 2, 3, 4, 5, 6] rfl)
        · rw [if_pos g] at h
          refine lv_iconst (v := (1 : Int32)) hx hb dX9_addChapter_129 (by decide) ?_
          refine lv_goto (tgt := 134) hx hb dX9_addChapter_130 (by decide) ?_
          exact j134a c2_0 c2_1 c2_2 c2_3 c3_0 c3_1 c3_2 c3_3 c4_0 c4_1 c4_2 c5_0 c5_1 c5_2 c5_3 c5_4 c5_5 c5_6 y1 y2 y3 y5 y6 t1 (1 : Int32) _ _ _ h hP hD hS (lv_sub hl [0, 1, 2, 3, 4, 5, 6] rfl)
      intro c2_0 c2_1 c2_2 c2_3 c3_0 c3_1 c3_2 c3_3 c4_0 c4_1 c4_2 c5_0 c5_1 c5_2 c5_3 c5_4 c5_5 c5_6 y1 y2 y3 y5 y6 H locs ls h hP hD hS hl
      have h : pX9_addChapter_bL88a (pX9_addChapter_L88a  nL88a) c2_0 c2_1 c2_2 c2_3 c3_0 c3_1 c3_2 c3_3 c4_0 c4_1 c4_2 c5_0 c5_1 c5_2 c5_3 c5_4 c5_5 c5_6 y1 y2 y3 y5 y6 = some q := h
      unfold pX9_addChapter_bL88a at h
      refine lv_iload hx hb dX9_addChapter_88 (lv_at hl 6 rfl) ?_
      refine lv_iload_n hx hb dX9_addChapter_90 rfl (lv_at hl 2 rfl) ?_
      refine lv_icmp_ge (tgt := 143) hx hb dX9_addChapter_91 (by decide) (fun g => ?_) (fun g => ?_)
      · rw [if_pos g] at h
        refine lv_iload hx hb dX9_addChapter_143 (lv_at hl 5 rfl) ?_
        obtain rfl := Option.some.inj h
        exact W.iret (v := y5) hx hb hr (fun t ht hW => ⟨⟨_, (), rfl, rfl, by rw [ht]; exact hP, hD⟩, hS.F ht⟩) hS.2.2 dX9_addChapter_145
      · rw [if_neg g] at h
        refine lv_aload hx hb dX9_addChapter_94 (lv_at hl 4 rfl) ?_
        refine lv_aload hx hb dX9_addChapter_96 (lv_at hl 4 rfl) ?_
        refine va_getN (D := D) (ci := 0) (v := .int c3_3) (C := RX0) (T := TX0) (N := 4) hx hb hts huX0 hown hK hP 6 rfl rfl 3 (by decide) (hN.f 1 rfl) (fun _ h9 => h9) rfl dX9_addChapter_98 ?_
        refine lv_iload hx hb dX9_addChapter_101 (lv_at hl 5 rfl) ?_
        refine lv_iload_n hx hb dX9_addChapter_103 rfl (lv_at hl 3 rfl) ?_
        refine lv_iconst (v := (0 : Int32)) hx hb dX9_addChapter_104 (by decide) ?_
        obtain ⟨q22, h21, h⟩ := Option.bind_eq_some_iff.mp h
        refine kcvw (ws' := (wVC aV aS aH.1 xV2 xV3 xV4 xV5 xV6 ++ (wSC aS aL.1 aR.1 aM.1 ++ (wBK cI aL c2_0 c2_1 c2_2 c2_3 ++ (wBK cI aR q22.1 q22.2.1 q22.2.2.1 q22.2.2.2 ++ (wMP cI aM c4_0 c4_1 c4_2 ++ wHI cI cS aH c5_0 c5_1 c5_2 c5_3 c5_4 c5_5 c5_6)))))) [6, 7, 8, 9] (va_runV (As := [.int c3_3, .int y5, .int y3, .int (0 : Int32)]) (rest := []) ⟨hx, hb, hml, hown, hts⟩ (kX0_insertAt l D cI cC cS aR c3_0 c3_1 c3_2 c3_3 c3_3 y5 y3 (0 : Int32) H.size h21) (cwV 4 hts gX9_addChapter_X0_insertAt rfl rfl rfl (by decide +kernel) ⟨Nat.le_of_ble_eq_true rfl, Nat.le_of_ble_eq_true rfl⟩) (kpreV hK hN hP hD [6, 7, 8, 9] rfl (by decide) 0 rfl rfl) rfl rfl hl.1 rfl (lv_room (Nat.le_of_ble_eq_true rfl)) dX9_addChapter_105 ⟨Nat.le_refl _, Nat.le_refl _⟩) hP hD hS hA rfl (by decide) rfl [0, 0, 0, 0, 0, 0, 1, 2, 3, 4, 0, 0, 0, 0, 0, 0, 0, 0, 0, 0, 0, 0, 0, 0, 0, 0, 0, 0, 0, 0, 0, 0, 0, 0, 0, 0, 0, 0, 0, 0, 0, 0, 0, 0, 0, 0, 0, 0, 0, 0, 0, 0, 0, 0, 0, 0, 0, 0, 0, 0, 0, 0, 0, 0, 0, 0, 0, 0, 0, 0, 0, 0, 0, 0, 0] (by decide +kernel) rfl (fun H locs hP hD hS => ?_)
        refine lv_aload_n hx hb dX9_addChapter_108 rfl (lv_at hl 0 rfl) ?_
        refine va_get (D := D) (ci := 9) (v := .ref aS) (C := RX9) (T := TX9) (N := 7) hx hb hts huX9 hown hK hP 0 rfl rfl 0 (by decide) (hts (.fieldLink RX9 12 "VerseColumns" "state" "LVerseColumns$State;") (by decide +kernel)) (fun _ h9 => h9) rfl dX9_addChapter_109 ?_
        refine va_getN (D := D) (ci := 7) (v := .ref aM.1) (C := RX7) (T := TX7) (N := 3) hx hb hts huX7 hown hK hP 1 rfl rfl 2 (by decide) (hN.f 11 rfl) (fun _ h9 => h9) rfl dX9_addChapter_112 ?_
        refine lv_iload_n hx hb dX9_addChapter_115 rfl (lv_at hl 1 rfl) ?_
        refine lv_if_ne (tgt := 123) hx hb dX9_addChapter_116 (by decide) (fun g => ?_) (fun g => ?_)
        · rw [if_neg g] at h
          refine lv_iconst (v := (0 : Int32)) hx hb dX9_addChapter_123 (by decide) ?_
          exact j124a c2_0 c2_1 c2_2 c2_3 q22.1 q22.2.1 q22.2.2.1 q22.2.2.2 c4_0 c4_1 c4_2 c5_0 c5_1 c5_2 c5_3 c5_4 c5_5 c5_6 y1 y2 y3 y5 y6 (0 : Int32) _ _ _ h hP hD hS (lv_sub hl [0, 1, 2, 3, 4, 5, 6] rfl)
        · rw [if_pos g] at h
          refine lv_iconst (v := (1 : Int32)) hx hb dX9_addChapter_119 (by decide) ?_
          refine lv_goto (tgt := 124) hx hb dX9_addChapter_120 (by decide) ?_
          exact j124a c2_0 c2_1 c2_2 c2_3 q22.1 q22.2.1 q22.2.2.1 q22.2.2.2 c4_0 c4_1 c4_2 c5_0 c5_1 c5_2 c5_3 c5_4 c5_5 c5_6 y1 y2 y3 y5 y6 (1 : Int32) _ _ _ h hP hD hS (lv_sub hl [0, 1, 2, 3, 4, 5, 6] rfl)
  unfold pX9_addChapter at h
  refine lv_iload_n hx hb dX9_addChapter_0 rfl (lv_at hl 1 rfl) ?_
  obtain ⟨q2, h1, h⟩ := Option.bind_eq_some_iff.mp h
  refine kcir [] (va_runS (As := [.int i1]) (rest := []) ⟨hx, hb, hml, hown, hts⟩ (kX9_isBook l D cI cC cS i1 s.heap.size h1) (cwS 1 hts gX9_addChapter_X9_isBook rfl rfl rfl (by decide +kernel) ⟨Nat.le_of_ble_eq_true rfl, Nat.le_of_ble_eq_true rfl⟩) (kpre hK hN hP hD [] rfl (by decide)) rfl rfl hl.1 rfl (lv_room (Nat.le_of_ble_eq_true rfl)) dX9_addChapter_1 ⟨Nat.le_refl _, Nat.le_refl _⟩) hP hD hS hA rfl (fun H locs hP hS => ?_)
  refine lv_if_ne (tgt := 9) hx hb dX9_addChapter_4 (by decide) (fun g => ?_) (fun g => ?_)
  · rw [if_neg g] at h
    refine lv_iload_n hx hb dX9_addChapter_9 rfl (lv_at hl 2 rfl) ?_
    refine lv_iconst (v := (1 : Int32)) hx hb dX9_addChapter_10 (by decide) ?_
    refine lv_bipush (v := (60 : Int32)) hx hb dX9_addChapter_11 (by decide) ?_
    obtain ⟨q4, h3, h⟩ := Option.bind_eq_some_iff.mp h
    refine kcir [] (va_runS (As := [.int i2, .int (1 : Int32), .int (60 : Int32)]) (rest := []) ⟨hx, hb, hml, hown, hts⟩ (kX9_isWithin l D cI cC cS i2 (1 : Int32) (60 : Int32) H.size h3) (cwS 3 hts gX9_addChapter_X9_isWithin rfl rfl rfl (by decide +kernel) ⟨Nat.le_of_ble_eq_true rfl, Nat.le_of_ble_eq_true rfl⟩) (kpre hK hN hP hD [] rfl (by decide)) rfl rfl hl.1 rfl (lv_room (Nat.le_of_ble_eq_true rfl)) dX9_addChapter_13 ⟨Nat.le_refl _, Nat.le_refl _⟩) hP hD hS hA rfl (fun H locs hP hS => ?_)
    refine lv_if_eq (tgt := 30) hx hb dX9_addChapter_16 (by decide) (fun g => ?_) (fun g => ?_)
    · rw [if_pos g] at h
      refine lv_bipush (v := (-2 : Int32)) hx hb dX9_addChapter_30 (by decide) ?_
      obtain rfl := Option.some.inj h
      exact W.iret (v := (-2 : Int32)) hx hb hr (fun t ht hW => ⟨⟨_, (), rfl, rfl, by rw [ht]; exact hP, hD⟩, hS.F ht⟩) hS.2.2 dX9_addChapter_32
    · rw [if_neg g] at h
      refine lv_iload_n hx hb dX9_addChapter_19 rfl (lv_at hl 3 rfl) ?_
      refine lv_iconst (v := (1 : Int32)) hx hb dX9_addChapter_20 (by decide) ?_
      refine lv_sipush (v := (2000 : Int32)) hx hb dX9_addChapter_21 (by decide) ?_
      obtain ⟨q6, h5, h⟩ := Option.bind_eq_some_iff.mp h
      refine kcir [] (va_runS (As := [.int i3, .int (1 : Int32), .int (2000 : Int32)]) (rest := []) ⟨hx, hb, hml, hown, hts⟩ (kX9_isWithin l D cI cC cS i3 (1 : Int32) (2000 : Int32) H.size h5) (cwS 3 hts gX9_addChapter_X9_isWithin rfl rfl rfl (by decide +kernel) ⟨Nat.le_of_ble_eq_true rfl, Nat.le_of_ble_eq_true rfl⟩) (kpre hK hN hP hD [] rfl (by decide)) rfl rfl hl.1 rfl (lv_room (Nat.le_of_ble_eq_true rfl)) dX9_addChapter_24 ⟨Nat.le_refl _, Nat.le_refl _⟩) hP hD hS hA rfl (fun H locs hP hS => ?_)
      refine lv_if_ne (tgt := 33) hx hb dX9_addChapter_27 (by decide) (fun g => ?_) (fun g => ?_)
      · rw [if_neg g] at h
        refine lv_aload_n hx hb dX9_addChapter_33 rfl (lv_at hl 0 rfl) ?_
        refine va_get (D := D) (ci := 9) (v := .ref aS) (C := RX9) (T := TX9) (N := 7) hx hb hts huX9 hown hK hP 0 rfl rfl 0 (by decide) (hts (.fieldLink RX9 12 "VerseColumns" "state" "LVerseColumns$State;") (by decide +kernel)) (fun _ h9 => h9) rfl dX9_addChapter_34 ?_
        refine lv_iload_n hx hb dX9_addChapter_37 rfl (lv_at hl 1 rfl) ?_
        refine kcrr [1] (va_runV (As := [.int i1]) (rest := []) ⟨hx, hb, hml, hown, hts⟩ (kX7_bookOf l D cI cC cS aS aL.1 aR.1 aM.1 i1 H.size) (cwV 1 hts gX9_addChapter_X7_bookOf rfl rfl rfl (by decide +kernel) ⟨Nat.le_of_ble_eq_true rfl, Nat.le_of_ble_eq_true rfl⟩) (kpreV hK hN hP hD [1] rfl (by decide) 7 rfl rfl) rfl rfl hl.1 rfl (lv_room (Nat.le_of_ble_eq_true rfl)) dX9_addChapter_38 ⟨Nat.le_refl _, Nat.le_refl _⟩) hP hD hS hA rfl (fun H locs hP hS => ?_)
        by_cases g : i1 = 0
        · rw [if_pos g] at h ⊢
          refine lv_astore (lv' := [(4, .ref aL.1), (0, .ref aV), (1, .int i1), (2, .int i2), (3, .int i3)]) hx hb dX9_addChapter_41 hl (by decide) rfl (fun ls hl => ?_)
          refine lv_aload hx hb dX9_addChapter_43 (lv_at hl 0 rfl) ?_
          obtain ⟨q10, h9, h⟩ := Option.bind_eq_some_iff.mp h
          refine kcir [2, 3, 4, 5] (va_runV (As := []) (rest := []) ⟨hx, hb, hml, hown, hts⟩ (kX0_chapterTotal l D cI cC cS aL vL0 vL1 vL2 vL3 H.size h9) (cwV 0 hts gX9_addChapter_X0_chapterTotal rfl rfl rfl (by decide +kernel) ⟨Nat.le_of_ble_eq_true rfl, Nat.le_of_ble_eq_true rfl⟩) (kpreV hK hN hP hD [2, 3, 4, 5] rfl (by decide) 0 rfl rfl) rfl rfl hl.1 rfl (lv_room (Nat.le_of_ble_eq_true rfl)) dX9_addChapter_45 ⟨Nat.le_refl _, Nat.le_refl _⟩) hP hD hS hA rfl (fun H locs hP hS => ?_)
          refine lv_iconst (v := (1 : Int32)) hx hb dX9_addChapter_48 (by decide) ?_
          refine lv_iadd hx hb dX9_addChapter_49 ?_
          refine lv_istore (lv' := [(5, .int (q10 + (1 : Int32))), (4, .ref aL.1), (0, .ref aV), (1, .int i1), (2, .int i2), (3, .int i3)]) hx hb dX9_addChapter_50 hl (by decide) rfl (fun ls hl => ?_)
          refine lv_iload hx hb dX9_addChapter_52 (lv_at hl 0 rfl) ?_
          refine lv_bipush (v := (10 : Int32)) hx hb dX9_addChapter_54 (by decide) ?_
          refine lv_icmp_gt (tgt := 71) hx hb dX9_addChapter_56 (by decide) (fun g => ?_) (fun g => ?_)
          · rw [if_pos g] at h
            refine lv_bipush (v := (-3 : Int32)) hx hb dX9_addChapter_71 (by decide) ?_
            obtain rfl := Option.some.inj h
            exact W.iret (v := (-3 : Int32)) hx hb hr (fun t ht hW => ⟨⟨_, (), rfl, rfl, by rw [ht]; exact hP, hD⟩, hS.F ht⟩) hS.2.2 dX9_addChapter_73
          · rw [if_neg g] at h
            refine lv_aload hx hb dX9_addChapter_59 (lv_at hl 1 rfl) ?_
            refine va_getN (D := D) (ci := 0) (v := .int vL3) (C := RX0) (T := TX0) (N := 4) hx hb hts huX0 hown hK hP 2 rfl rfl 3 (by decide) (hN.f 1 rfl) (fun _ h9 => h9) rfl dX9_addChapter_61 ?_
            refine lv_iload_n hx hb dX9_addChapter_64 rfl (lv_at hl 4 rfl) ?_
            refine lv_iadd hx hb dX9_addChapter_65 ?_
            refine lv_bipush (v := (60 : Int32)) hx hb dX9_addChapter_66 (by decide) ?_
            refine lv_icmp_le (tgt := 74) hx hb dX9_addChapter_68 (by decide) (fun g => ?_) (fun g => ?_)
            · rw [if_pos g] at h
              refine lv_aload_n hx hb dX9_addChapter_74 rfl (lv_at hl 2 rfl) ?_
              refine va_get (D := D) (ci := 9) (v := .ref aH.1) (C := RX9) (T := TX9) (N := 7) hx hb hts huX9 hown hK hP 0 rfl rfl 1 (by decide) (hts (.fieldLink RX9 19 "VerseColumns" "history" "LVerseColumns$History;") (by decide +kernel)) (fun _ h9 => h9) rfl dX9_addChapter_75 ?_
              refine lv_aload_n hx hb dX9_addChapter_78 rfl (lv_at hl 2 rfl) ?_
              refine va_get (D := D) (ci := 9) (v := .ref aS) (C := RX9) (T := TX9) (N := 7) hx hb hts huX9 hown hK hP 0 rfl rfl 0 (by decide) (hts (.fieldLink RX9 12 "VerseColumns" "state" "LVerseColumns$State;") (by decide +kernel)) (fun _ h9 => h9) rfl dX9_addChapter_79 ?_
              obtain ⟨q12, h11, h⟩ := Option.bind_eq_some_iff.mp h
              refine kcvw (ws' := (wVC aV aS aH.1 xV2 xV3 xV4 xV5 xV6 ++ (wSC aS aL.1 aR.1 aM.1 ++ (wBK cI aL vL0 vL1 vL2 vL3 ++ (wBK cI aR vR0 vR1 vR2 vR3 ++ (wMP cI aM vM0 vM1 vM2 ++ wHI cI cS aH q12.1 q12.2.1 q12.2.2.1 q12.2.2.2.1 q12.2.2.2.2.1 q12.2.2.2.2.2.1 q12.2.2.2.2.2.2)))))) [13, 14, 15, 16, 17, 18, 19, 20, 21, 22, 23, 24, 25, 26, 27, 28, 29, 30, 31, 32, 33, 34, 35, 36, 37, 38, 39, 40, 41, 42, 43, 44, 45, 46, 47, 48, 49, 50, 51, 52, 53, 54, 55, 56, 57, 58, 59, 60, 61, 62, 63, 64, 65, 66, 67, 68, 69, 70, 71, 72, 73, 74, 1, 2, 3, 4, 5, 6, 7, 8, 9, 10, 11, 12] (va_runV (As := [.ref aS]) (rest := []) ⟨hx, hb, hml, hown, hts⟩ (kX2_record l D cI cC cS aH vH0 vH2 vH3 vH4 vH5 vH6 aS aL vL0 vL1 vL2 vL3 aR vR0 vR1 vR2 vR3 aM vM0 vM1 vM2 H.size h11) (cwV 1 hts gX9_addChapter_X2_record rfl rfl rfl (by decide +kernel) ⟨Nat.le_of_ble_eq_true rfl, Nat.le_of_ble_eq_true rfl⟩) (kpreV hK hN hP hD [13, 14, 15, 16, 17, 18, 19, 20, 21, 22, 23, 24, 25, 26, 27, 28, 29, 30, 31, 32, 33, 34, 35, 36, 37, 38, 39, 40, 41, 42, 43, 44, 45, 46, 47, 48, 49, 50, 51, 52, 53, 54, 55, 56, 57, 58, 59, 60, 61, 62, 63, 64, 65, 66, 67, 68, 69, 70, 71, 72, 73, 74, 1, 2, 3, 4, 5, 6, 7, 8, 9, 10, 11, 12] rfl (by decide +kernel) 2 rfl rfl) rfl rfl hl.1 rfl (lv_room (Nat.le_of_ble_eq_true rfl)) dX9_addChapter_82 ⟨Nat.le_refl _, Nat.le_refl _⟩) hP hD hS hA rfl (by decide +kernel) rfl [0, 63, 64, 65, 66, 67, 68, 69, 70, 71, 72, 73, 74, 1, 2, 3, 4, 5, 6, 7, 8, 9, 10, 11, 12, 13, 14, 15, 16, 17, 18, 19, 20, 21, 22, 23, 24, 25, 26, 27, 28, 29, 30, 31, 32, 33, 34, 35, 36, 37, 38, 39, 40, 41, 42, 43, 44, 45, 46, 47, 48, 49, 50, 51, 52, 53, 54, 55, 56, 57, 58, 59, 60, 61, 62] (by decide +kernel) rfl (fun H locs hP hD hS => ?_)
              refine lv_iconst (v := (0 : Int32)) hx hb dX9_addChapter_85 (by decide) ?_
              refine lv_istore (lv' := [(6, .int (0 : Int32)), (5, .int (q10 + (1 : Int32))), (4, .ref aL.1), (0, .ref aV), (1, .int i1), (2, .int i2), (3, .int i3)]) hx hb dX9_addChapter_86 hl (by decide) rfl (fun ls hl => ?_)
              exact L88 4000 vL0 vL1 vL2 vL3 vR0 vR1 vR2 vR3 vM0 vM1 vM2 q12.1 q12.2.1 q12.2.2.1 q12.2.2.2.1 q12.2.2.2.2.1 q12.2.2.2.2.2.1 q12.2.2.2.2.2.2 i1 i2 i3 (q10 + (1 : Int32)) (0 : Int32) _ _ _ h hP hD hS (lv_sub hl [3, 4, 5, 6, 2, 1, 0] rfl)
            · rw [if_neg g] at h
              refine lv_bipush (v := (-3 : Int32)) hx hb dX9_addChapter_71 (by decide) ?_
              obtain rfl := Option.some.inj h
              exact W.iret (v := (-3 : Int32)) hx hb hr (fun t ht hW => ⟨⟨_, (), rfl, rfl, by rw [ht]; exact hP, hD⟩, hS.F ht⟩) hS.2.2 dX9_addChapter_73
        · rw [if_neg g] at h ⊢
          refine lv_astore (lv' := [(4, .ref aR.1), (0, .ref aV), (1, .int i1), (2, .int i2), (3, .int i3)]) hx hb dX9_addChapter_41 hl (by decide) rfl (fun ls hl => ?_)
          refine lv_aload hx hb dX9_addChapter_43 (lv_at hl 0 rfl) ?_
          obtain ⟨q18, h17, h⟩ := Option.bind_eq_some_iff.mp h
          refine kcir [6, 7, 8, 9] (va_runV (As := []) (rest := []) ⟨hx, hb, hml, hown, hts⟩ (kX0_chapterTotal l D cI cC cS aR vR0 vR1 vR2 vR3 H.size h17) (cwV 0 hts gX9_addChapter_X0_chapterTotal rfl rfl rfl (by decide +kernel) ⟨Nat.le_of_ble_eq_true rfl, Nat.le_of_ble_eq_true rfl⟩) (kpreV hK hN hP hD [6, 7, 8, 9] rfl (by decide) 0 rfl rfl) rfl rfl hl.1 rfl (lv_room (Nat.le_of_ble_eq_true rfl)) dX9_addChapter_45 ⟨Nat.le_refl _, Nat.le_refl _⟩) hP hD hS hA rfl (fun H locs hP hS => ?_)
          refine lv_iconst (v := (1 : Int32)) hx hb dX9_addChapter_48 (by decide) ?_
          refine lv_iadd hx hb dX9_addChapter_49 ?_
          refine lv_istore (lv' := [(5, .int (q18 + (1 : Int32))), (4, .ref aR.1), (0, .ref aV), (1, .int i1), (2, .int i2), (3, .int i3)]) hx hb dX9_addChapter_50 hl (by decide) rfl (fun ls hl => ?_)
          refine lv_iload hx hb dX9_addChapter_52 (lv_at hl 0 rfl) ?_
          refine lv_bipush (v := (10 : Int32)) hx hb dX9_addChapter_54 (by decide) ?_
          refine lv_icmp_gt (tgt := 71) hx hb dX9_addChapter_56 (by decide) (fun g => ?_) (fun g => ?_)
          · rw [if_pos g] at h
            refine lv_bipush (v := (-3 : Int32)) hx hb dX9_addChapter_71 (by decide) ?_
            obtain rfl := Option.some.inj h
            exact W.iret (v := (-3 : Int32)) hx hb hr (fun t ht hW => ⟨⟨_, (), rfl, rfl, by rw [ht]; exact hP, hD⟩, hS.F ht⟩) hS.2.2 dX9_addChapter_73
          · rw [if_neg g] at h
            refine lv_aload hx hb dX9_addChapter_59 (lv_at hl 1 rfl) ?_
            refine va_getN (D := D) (ci := 0) (v := .int vR3) (C := RX0) (T := TX0) (N := 4) hx hb hts huX0 hown hK hP 6 rfl rfl 3 (by decide) (hN.f 1 rfl) (fun _ h9 => h9) rfl dX9_addChapter_61 ?_
            refine lv_iload_n hx hb dX9_addChapter_64 rfl (lv_at hl 4 rfl) ?_
            refine lv_iadd hx hb dX9_addChapter_65 ?_
            refine lv_bipush (v := (60 : Int32)) hx hb dX9_addChapter_66 (by decide) ?_
            refine lv_icmp_le (tgt := 74) hx hb dX9_addChapter_68 (by decide) (fun g => ?_) (fun g => ?_)
            · rw [if_pos g] at h
              refine lv_aload_n hx hb dX9_addChapter_74 rfl (lv_at hl 2 rfl) ?_
              refine va_get (D := D) (ci := 9) (v := .ref aH.1) (C := RX9) (T := TX9) (N := 7) hx hb hts huX9 hown hK hP 0 rfl rfl 1 (by decide) (hts (.fieldLink RX9 19 "VerseColumns" "history" "LVerseColumns$History;") (by decide +kernel)) (fun _ h9 => h9) rfl dX9_addChapter_75 ?_
              refine lv_aload_n hx hb dX9_addChapter_78 rfl (lv_at hl 2 rfl) ?_
              refine va_get (D := D) (ci := 9) (v := .ref aS) (C := RX9) (T := TX9) (N := 7) hx hb hts huX9 hown hK hP 0 rfl rfl 0 (by decide) (hts (.fieldLink RX9 12 "VerseColumns" "state" "LVerseColumns$State;") (by decide +kernel)) (fun _ h9 => h9) rfl dX9_addChapter_79 ?_
              obtain ⟨q20, h19, h⟩ := Option.bind_eq_some_iff.mp h
              refine kcvw (ws' := (wVC aV aS aH.1 xV2 xV3 xV4 xV5 xV6 ++ (wSC aS aL.1 aR.1 aM.1 ++ (wBK cI aL vL0 vL1 vL2 vL3 ++ (wBK cI aR vR0 vR1 vR2 vR3 ++ (wMP cI aM vM0 vM1 vM2 ++ wHI cI cS aH q20.1 q20.2.1 q20.2.2.1 q20.2.2.2.1 q20.2.2.2.2.1 q20.2.2.2.2.2.1 q20.2.2.2.2.2.2)))))) [13, 14, 15, 16, 17, 18, 19, 20, 21, 22, 23, 24, 25, 26, 27, 28, 29, 30, 31, 32, 33, 34, 35, 36, 37, 38, 39, 40, 41, 42, 43, 44, 45, 46, 47, 48, 49, 50, 51, 52, 53, 54, 55, 56, 57, 58, 59, 60, 61, 62, 63, 64, 65, 66, 67, 68, 69, 70, 71, 72, 73, 74, 1, 2, 3, 4, 5, 6, 7, 8, 9, 10, 11, 12] (va_runV (As := [.ref aS]) (rest := []) ⟨hx, hb, hml, hown, hts⟩ (kX2_record l D cI cC cS aH vH0 vH2 vH3 vH4 vH5 vH6 aS aL vL0 vL1 vL2 vL3 aR vR0 vR1 vR2 vR3 aM vM0 vM1 vM2 H.size h19) (cwV 1 hts gX9_addChapter_X2_record rfl rfl rfl (by decide +kernel) ⟨Nat.le_of_ble_eq_true rfl, Nat.le_of_ble_eq_true rfl⟩) (kpreV hK hN hP hD [13, 14, 15, 16, 17, 18, 19, 20, 21, 22, 23, 24, 25, 26, 27, 28, 29, 30, 31, 32, 33, 34, 35, 36, 37, 38, 39, 40, 41, 42, 43, 44, 45, 46, 47, 48, 49, 50, 51, 52, 53, 54, 55, 56, 57, 58, 59, 60, 61, 62, 63, 64, 65, 66, 67, 68, 69, 70, 71, 72, 73, 74, 1, 2, 3, 4, 5, 6, 7, 8, 9, 10, 11, 12] rfl (by decide +kernel) 2 rfl rfl) rfl rfl hl.1 rfl (lv_room (Nat.le_of_ble_eq_true rfl)) dX9_addChapter_82 ⟨Nat.le_refl _, Nat.le_refl _⟩) hP hD hS hA rfl (by decide +kernel) rfl [0, 63, 64, 65, 66, 67, 68, 69, 70, 71, 72, 73, 74, 1, 2, 3, 4, 5, 6, 7, 8, 9, 10, 11, 12, 13, 14, 15, 16, 17, 18, 19, 20, 21, 22, 23, 24, 25, 26, 27, 28, 29, 30, 31, 32, 33, 34, 35, 36, 37, 38, 39, 40, 41, 42, 43, 44, 45, 46, 47, 48, 49, 50, 51, 52, 53, 54, 55, 56, 57, 58, 59, 60, 61, 62] (by decide +kernel) rfl (fun H locs hP hD hS => ?_)
              refine lv_iconst (v := (0 : Int32)) hx hb dX9_addChapter_85 (by decide) ?_
              refine lv_istore (lv' := [(6, .int (0 : Int32)), (5, .int (q18 + (1 : Int32))), (4, .ref aR.1), (0, .ref aV), (1, .int i1), (2, .int i2), (3, .int i3)]) hx hb dX9_addChapter_86 hl (by decide) rfl (fun ls hl => ?_)
              exact L88a 4000 vL0 vL1 vL2 vL3 vR0 vR1 vR2 vR3 vM0 vM1 vM2 q20.1 q20.2.1 q20.2.2.1 q20.2.2.2.1 q20.2.2.2.2.1 q20.2.2.2.2.2.1 q20.2.2.2.2.2.2 i1 i2 i3 (q18 + (1 : Int32)) (0 : Int32) _ _ _ h hP hD hS (lv_sub hl [3, 4, 5, 6, 2, 1, 0] rfl)
            · rw [if_neg g] at h
              refine lv_bipush (v := (-3 : Int32)) hx hb dX9_addChapter_71 (by decide) ?_
              obtain rfl := Option.some.inj h
              exact W.iret (v := (-3 : Int32)) hx hb hr (fun t ht hW => ⟨⟨_, (), rfl, rfl, by rw [ht]; exact hP, hD⟩, hS.F ht⟩) hS.2.2 dX9_addChapter_73
      · rw [if_pos g] at h
        refine lv_bipush (v := (-2 : Int32)) hx hb dX9_addChapter_30 (by decide) ?_
        obtain rfl := Option.some.inj h
        exact W.iret (v := (-2 : Int32)) hx hb hr (fun t ht hW => ⟨⟨_, (), rfl, rfl, by rw [ht]; exact hP, hD⟩, hS.F ht⟩) hS.2.2 dX9_addChapter_32
  · rw [if_pos g] at h
    refine lv_iconst (v := (-1 : Int32)) hx hb dX9_addChapter_7 (by decide) ?_
    obtain rfl := Option.some.inj h
    exact W.iret (v := (-1 : Int32)) hx hb hr (fun t ht hW => ⟨⟨_, (), rfl, rfl, by rw [ht]; exact hP, hD⟩, hS.F ht⟩) hS.2.2 dX9_addChapter_8
