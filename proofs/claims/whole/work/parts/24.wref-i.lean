-- walks: ref (printed by wip/whole/gen)
set_option maxHeartbeats 8000000 in
set_option maxRecDepth 100000 in
theorem kX10_setHeights (l : Launch) (D : va_G) (cI cC cS : ClassId) (aD : Nat × Nat × Nat × Nat × Nat × Nat × Nat × Nat × Nat × Nat × Nat) (vD0 : (Nat → Int32)) (vD1 : (Nat → Int32)) (vD2 : Int32) (vD3 : Int32) (vD4 : (Nat → Int32)) (vD5 : Int32) (vD6 : Int32) (vD7 : Int32) (vD8 : Int32) (vD9 : Int32) (vD10 : Int32) (vD11 : (Nat → Int32)) (vD12 : (Nat → Int32)) (vD13 : Int32) (vD14 : Int32) (vD15 : (Nat → Int32)) (vD16 : Int32) (vD17 : Int32) (vD18 : Int32) (vD19 : (Nat → Int32)) (vD20 : (Nat → Int32)) (vD21 : (Nat → Int32)) (vD22 : (Nat → Int32)) (i1 : Int32) (i2 : Int32) (sz : Nat) {q : Int32 × Int32 × Int32} (h : pX10_setHeights vD16 vD17 i1 i2 = some q) : kMi l yX10_setHeights wsX10_setHeights ({ frames := 1, cells := 0, slots := 0, locals := 22 } : Room) D (kTy cI cC cS) [.ref aD.1, .int i1, .int i2] (wMD cC cI aD vD0 vD1 vD2 vD3 vD4 vD5 vD6 vD7 vD8 vD9 vD10 vD11 vD12 vD13 vD14 vD15 vD16 vD17 vD18 vD19 vD20 vD21 vD22) sz q.1 (wMD cC cI aD vD0 vD1 vD2 vD3 vD4 vD5 vD6 vD7 vD8 vD9 vD10 vD11 vD12 vD13 vD14 vD15 q.2.1 q.2.2 vD18 vD19 vD20 vD21 vD22) := by
  refine Met.ofW (cc := cX10_setHeights) (maxL := 4) (ret := (some .int)) (by decide) rfl ?_
  intro p e s m args below meth c s₁ B hml hv
  obtain ⟨rfl, hsz, hP, hK, hD0, hN⟩ := hv
  have hx := B.exec
  have hb := B.bytes
  have hr := B.returns
  have hts := atoms_spec (ws := wsX10_setHeights) B.pre
  have hown : s.vm.findClass RX10 = some m.cls := findClass_of_methodNamed B.named
  have hlocks := B.notSynchronized
  subst hsz
  have hD := hD0.self (sz := s.heap.size)
  generalize hAe : va_A (wMD cC cI aD vD0 vD1 vD2 vD3 vD4 vD5 vD6 vD7 vD8 vD9 vD10 vD11 vD12 vD13 vD14 vD15 vD16 vD17 vD18 vD19 vD20 vD21 vD22) s.heap.size = A at hD ⊢
  have hA : ∀ q : Nat, s.heap.size ≤ q → A q := fun q h => by rw [← hAe]; exact Or.inr h
  have hS : va_S A s.heap s.heap [] := va_S.rf
  have huX10 : ∀ w ∈ u_ws RX10 TX10 23, w ∈ wsX10_setHeights := by decide +kernel
  have hl := lv_entry ([.ref aD.1, .int i1, .int i2]) (n := 4) (Nat.le_of_ble_eq_true rfl)
  rw [lg_entry_eq]
  generalize (lg_sl ([.ref aD.1, .int i1, .int i2]) ++ List.replicate (4 - (lg_sl ([.ref aD.1, .int i1, .int i2])).length) Slot.unset).toArray = ls at hl ⊢
  have hl : lv_has ls 4 [(0, .ref aD.1), (1, .int i1), (2, .int i2)] := hl
  unfold pX10_setHeights at h
  refine lv_iload_n hx hb dX10_setHeights_0 rfl (lv_at hl 1 rfl) ?_
  refine lv_iconst (v := (5 : Int32)) hx hb dX10_setHeights_1 (by decide) ?_
  refine lv_sipush (v := (200 : Int32)) hx hb dX10_setHeights_2 (by decide) ?_
  obtain ⟨q2, h1, h⟩ := Option.bind_eq_some_iff.mp h
  refine kcir [] (va_runS (As := [.int i1, .int (5 : Int32), .int (200 : Int32)]) (rest := []) ⟨hx, hb, hml, hown, hts⟩ (kX10_in l D cI cC cS i1 (5 : Int32) (200 : Int32) s.heap.size h1) (cwS 3 hts gX10_setHeights_X10_in rfl rfl rfl (by decide +kernel) ⟨Nat.le_of_ble_eq_true rfl, Nat.le_of_ble_eq_true rfl⟩) (kpre hK hN hP hD [] rfl (by decide)) rfl rfl hl.1 rfl (lv_room (Nat.le_of_ble_eq_true rfl)) dX10_setHeights_5 ⟨Nat.le_refl _, Nat.le_refl _⟩) hP hD hS hA rfl (fun H locs hP hS => ?_)
  refine lv_if_eq (tgt := 20) hx hb dX10_setHeights_8 (by decide) (fun g => ?_) (fun g => ?_)
  · rw [if_pos g] at h
    refine lv_bipush (v := (-2 : Int32)) hx hb dX10_setHeights_20 (by decide) ?_
    obtain rfl := Option.some.inj h
    exact W.iret (v := (-2 : Int32)) hx hb hr (fun t ht hW => ⟨⟨_, (), rfl, rfl, by rw [ht]; exact hP, hD⟩, hS.F ht⟩) hS.2.2 dX10_setHeights_22
  · rw [if_neg g] at h
    refine lv_iload_n hx hb dX10_setHeights_11 rfl (lv_at hl 2 rfl) ?_
    refine lv_iconst (v := (0 : Int32)) hx hb dX10_setHeights_12 (by decide) ?_
    refine lv_iconst (v := (5 : Int32)) hx hb dX10_setHeights_13 (by decide) ?_
    obtain ⟨q4, h3, h⟩ := Option.bind_eq_some_iff.mp h
    refine kcir [] (va_runS (As := [.int i2, .int (0 : Int32), .int (5 : Int32)]) (rest := []) ⟨hx, hb, hml, hown, hts⟩ (kX10_in l D cI cC cS i2 (0 : Int32) (5 : Int32) H.size h3) (cwS 3 hts gX10_setHeights_X10_in rfl rfl rfl (by decide +kernel) ⟨Nat.le_of_ble_eq_true rfl, Nat.le_of_ble_eq_true rfl⟩) (kpre hK hN hP hD [] rfl (by decide)) rfl rfl hl.1 rfl (lv_room (Nat.le_of_ble_eq_true rfl)) dX10_setHeights_14 ⟨Nat.le_refl _, Nat.le_refl _⟩) hP hD hS hA rfl (fun H locs hP hS => ?_)
    refine lv_if_ne (tgt := 23) hx hb dX10_setHeights_17 (by decide) (fun g => ?_) (fun g => ?_)
    · rw [if_neg g] at h
      refine lv_aload_n hx hb dX10_setHeights_23 rfl (lv_at hl 0 rfl) ?_
      refine va_get (D := D) (ci := 10) (v := .int vD16) (C := RX10) (T := TX10) (N := 23) hx hb hts huX10 hown hK hP 0 rfl rfl 16 (by decide) (hts (.fieldLink RX10 29 "VerseColumnsModel" "pageHeight" "I") (by decide +kernel)) (fun _ h9 => h9) rfl dX10_setHeights_24 ?_
      refine lv_istore_n (lv' := [(3, .int vD16), (0, .ref aD.1), (1, .int i1), (2, .int i2)]) hx hb dX10_setHeights_27 rfl hl (by decide) rfl (fun ls hl => ?_)
      refine lv_aload_n hx hb dX10_setHeights_28 rfl (lv_at hl 1 rfl) ?_
      refine lv_iload_n hx hb dX10_setHeights_29 rfl (lv_at hl 2 rfl) ?_
      refine va_put (D := D) (ci := 10) (v := .int i1) (ty := .int) (C := RX10) (T := TX10) (N := 23) hx hb hts huX10 tyX10 tyX10_ok nmX10 hown hK hP hD hS 0 rfl rfl 16 (by decide) (hts (.fieldLink RX10 29 "VerseColumnsModel" "pageHeight" "I") (by decide +kernel)) (fun _ h9 => h9) rfl (by decide +kernel) rfl rfl (Nat.le_of_ble_eq_true rfl) dX10_setHeights_30 (fun H locs hP hD hS => ?_)
      have hP : va_P D vwCl (wMD cC cI aD vD0 vD1 vD2 vD3 vD4 vD5 vD6 vD7 vD8 vD9 vD10 vD11 vD12 vD13 vD14 vD15 i1 vD17 vD18 vD19 vD20 vD21 vD22) H := hP
      have hD : va_D A (wMD cC cI aD vD0 vD1 vD2 vD3 vD4 vD5 vD6 vD7 vD8 vD9 vD10 vD11 vD12 vD13 vD14 vD15 i1 vD17 vD18 vD19 vD20 vD21 vD22) := hD
      refine lv_aload_n hx hb dX10_setHeights_33 rfl (lv_at hl 1 rfl) ?_
      refine lv_iload_n hx hb dX10_setHeights_34 rfl (lv_at hl 3 rfl) ?_
      refine va_put (D := D) (ci := 10) (v := .int i2) (ty := .int) (C := RX10) (T := TX10) (N := 23) hx hb hts huX10 tyX10 tyX10_ok nmX10 hown hK hP hD hS 0 rfl rfl 17 (by decide) (hts (.fieldLink RX10 33 "VerseColumnsModel" "headingHeight" "I") (by decide +kernel)) (fun _ h9 => h9) rfl (by decide +kernel) rfl rfl (Nat.le_of_ble_eq_true rfl) dX10_setHeights_35 (fun H locs hP hD hS => ?_)
      have hP : va_P D vwCl (wMD cC cI aD vD0 vD1 vD2 vD3 vD4 vD5 vD6 vD7 vD8 vD9 vD10 vD11 vD12 vD13 vD14 vD15 i1 i2 vD18 vD19 vD20 vD21 vD22) H := hP
      have hD : va_D A (wMD cC cI aD vD0 vD1 vD2 vD3 vD4 vD5 vD6 vD7 vD8 vD9 vD10 vD11 vD12 vD13 vD14 vD15 i1 i2 vD18 vD19 vD20 vD21 vD22) := hD
      refine lv_iload_n hx hb dX10_setHeights_38 rfl (lv_at hl 0 rfl) ?_
      obtain rfl := Option.some.inj h
      exact W.iret (v := vD16) hx hb hr (fun t ht hW => ⟨⟨_, (), rfl, rfl, by rw [ht]; exact hP, hD⟩, hS.F ht⟩) hS.2.2 dX10_setHeights_39
    · rw [if_pos g] at h
      refine lv_bipush (v := (-2 : Int32)) hx hb dX10_setHeights_20 (by decide) ?_
      obtain rfl := Option.some.inj h
      exact W.iret (v := (-2 : Int32)) hx hb hr (fun t ht hW => ⟨⟨_, (), rfl, rfl, by rw [ht]; exact hP, hD⟩, hS.F ht⟩) hS.2.2 dX10_setHeights_22
set_option maxHeartbeats 8000000 in
set_option maxRecDepth 100000 in
theorem kX10_linesOf (l : Launch) (D : va_G) (cI cC cS : ClassId) (aD : Nat × Nat × Nat × Nat × Nat × Nat × Nat × Nat × Nat × Nat × Nat) (vD0 : (Nat → Int32)) (vD1 : (Nat → Int32)) (vD2 : Int32) (vD3 : Int32) (vD4 : (Nat → Int32)) (vD5 : Int32) (vD6 : Int32) (vD7 : Int32) (vD8 : Int32) (vD9 : Int32) (vD10 : Int32) (vD11 : (Nat → Int32)) (vD12 : (Nat → Int32)) (vD13 : Int32) (vD14 : Int32) (vD15 : (Nat → Int32)) (vD16 : Int32) (vD17 : Int32) (vD18 : Int32) (vD19 : (Nat → Int32)) (vD20 : (Nat → Int32)) (vD21 : (Nat → Int32)) (vD22 : (Nat → Int32)) (i1 : Int32) (i2 : Int32) (sz : Nat) {q : Int32} (h : pX10_linesOf vD0 vD15 i1 i2 = some q) : kMi l yX10_linesOf wsX10_linesOf ({ frames := 1, cells := 0, slots := 0, locals := 21 } : Room) D (kTy cI cC cS) [.ref aD.1, .int i1, .int i2] (wMD cC cI aD vD0 vD1 vD2 vD3 vD4 vD5 vD6 vD7 vD8 vD9 vD10 vD11 vD12 vD13 vD14 vD15 vD16 vD17 vD18 vD19 vD20 vD21 vD22) sz q (wMD cC cI aD vD0 vD1 vD2 vD3 vD4 vD5 vD6 vD7 vD8 vD9 vD10 vD11 vD12 vD13 vD14 vD15 vD16 vD17 vD18 vD19 vD20 vD21 vD22) := by
  refine Met.ofW (cc := cX10_linesOf) (maxL := 3) (ret := (some .int)) (by decide) rfl ?_
  intro p e s m args below meth c s₁ B hml hv
  obtain ⟨rfl, hsz, hP, hK, hD0, hN⟩ := hv
  have hx := B.exec
  have hb := B.bytes
  have hr := B.returns
  have hts := atoms_spec (ws := wsX10_linesOf) B.pre
  have hown : s.vm.findClass RX10 = some m.cls := findClass_of_methodNamed B.named
  have hlocks := B.notSynchronized
  subst hsz
  have hD := hD0.self (sz := s.heap.size)
  generalize hAe : va_A (wMD cC cI aD vD0 vD1 vD2 vD3 vD4 vD5 vD6 vD7 vD8 vD9 vD10 vD11 vD12 vD13 vD14 vD15 vD16 vD17 vD18 vD19 vD20 vD21 vD22) s.heap.size = A at hD ⊢
  have hA : ∀ q : Nat, s.heap.size ≤ q → A q := fun q h => by rw [← hAe]; exact Or.inr h
  have hS : va_S A s.heap s.heap [] := va_S.rf
  have huX10 : ∀ w ∈ u_ws RX10 TX10 23, w ∈ wsX10_linesOf := by decide +kernel
  have hl := lv_entry ([.ref aD.1, .int i1, .int i2]) (n := 3) (Nat.le_of_ble_eq_true rfl)
  rw [lg_entry_eq]
  generalize (lg_sl ([.ref aD.1, .int i1, .int i2]) ++ List.replicate (3 - (lg_sl ([.ref aD.1, .int i1, .int i2])).length) Slot.unset).toArray = ls at hl ⊢
  have hl : lv_has ls 3 [(0, .ref aD.1), (1, .int i1), (2, .int i2)] := hl
  unfold pX10_linesOf at h
  refine lv_aload_n hx hb dX10_linesOf_0 rfl (lv_at hl 0 rfl) ?_
  refine va_get (D := D) (ci := 10) (v := .ref aD.2.1) (C := RX10) (T := TX10) (N := 23) hx hb hts huX10 hown hK hP 0 rfl rfl 0 (by decide) (hts (.fieldLink RX10 7 "VerseColumnsModel" "row" "[I") (by decide +kernel)) (fun _ h9 => h9) rfl dX10_linesOf_1 ?_
  refine lv_bipush (v := (60 : Int32)) hx hb dX10_linesOf_4 (by decide) ?_
  refine lv_iload_n hx hb dX10_linesOf_6 rfl (lv_at hl 1 rfl) ?_
  refine lv_imul hx hb dX10_linesOf_7 ?_
  refine lv_iload_n hx hb dX10_linesOf_8 rfl (lv_at hl 2 rfl) ?_
  refine lv_iadd hx hb dX10_linesOf_9 ?_
  obtain ⟨g, h⟩ := kif h
  refine va_iald hx hb hK hP 1 0 rfl rfl (kin g) dX10_linesOf_10 ?_
  refine lv_aload_n hx hb dX10_linesOf_11 rfl (lv_at hl 0 rfl) ?_
  refine lv_iload_n hx hb dX10_linesOf_12 rfl (lv_at hl 1 rfl) ?_
  obtain ⟨q2, h1, h⟩ := Option.bind_eq_some_iff.mp h
  refine kcir [0, 1, 2, 3, 4, 5, 6, 7, 8, 9, 10] (va_runV (As := [.int i1]) (rest := [.int (vD0 (((60 : Int32) * i1) + i2).toNatClampNeg)]) ⟨hx, hb, hml, hown, hts⟩ (kX10_width l D cI cC cS aD vD0 vD1 vD2 vD3 vD4 vD5 vD6 vD7 vD8 vD9 vD10 vD11 vD12 vD13 vD14 vD15 vD16 vD17 vD18 vD19 vD20 vD21 vD22 i1 s.heap.size h1) (cwV 1 hts gX10_linesOf_X10_width rfl rfl rfl (by decide +kernel) ⟨Nat.le_of_ble_eq_true rfl, Nat.le_of_ble_eq_true rfl⟩) (kpreV hK hN hP hD [0, 1, 2, 3, 4, 5, 6, 7, 8, 9, 10] rfl (by decide) 10 rfl rfl) rfl rfl hl.1 rfl (lv_room (Nat.le_of_ble_eq_true rfl)) dX10_linesOf_13 ⟨Nat.le_refl _, Nat.le_refl _⟩) hP hD hS hA rfl (fun H locs hP hS => ?_)
  refine lv_iadd hx hb dX10_linesOf_16 ?_
  refine lv_iconst (v := (1 : Int32)) hx hb dX10_linesOf_17 (by decide) ?_
  refine lv_isub hx hb dX10_linesOf_18 ?_
  refine lv_aload_n hx hb dX10_linesOf_19 rfl (lv_at hl 0 rfl) ?_
  refine lv_iload_n hx hb dX10_linesOf_20 rfl (lv_at hl 1 rfl) ?_
  obtain ⟨q4, h3, h⟩ := Option.bind_eq_some_iff.mp h
  refine kcir [0, 1, 2, 3, 4, 5, 6, 7, 8, 9, 10] (va_runV (As := [.int i1]) (rest := [.int (((vD0 (((60 : Int32) * i1) + i2).toNatClampNeg) + q2) - (1 : Int32))]) ⟨hx, hb, hml, hown, hts⟩ (kX10_width l D cI cC cS aD vD0 vD1 vD2 vD3 vD4 vD5 vD6 vD7 vD8 vD9 vD10 vD11 vD12 vD13 vD14 vD15 vD16 vD17 vD18 vD19 vD20 vD21 vD22 i1 H.size h3) (cwV 1 hts gX10_linesOf_X10_width rfl rfl rfl (by decide +kernel) ⟨Nat.le_of_ble_eq_true rfl, Nat.le_of_ble_eq_true rfl⟩) (kpreV hK hN hP hD [0, 1, 2, 3, 4, 5, 6, 7, 8, 9, 10] rfl (by decide) 10 rfl rfl) rfl rfl hl.1 rfl (lv_room (Nat.le_of_ble_eq_true rfl)) dX10_linesOf_21 ⟨Nat.le_refl _, Nat.le_refl _⟩) hP hD hS hA rfl (fun H locs hP hS => ?_)
  obtain ⟨g, h⟩ := kif h
  refine lv_idiv hx hb dX10_linesOf_24 g ?_
  obtain rfl := Option.some.inj h
  exact W.iret (v := ((((vD0 (((60 : Int32) * i1) + i2).toNatClampNeg) + q2) - (1 : Int32)) / q4)) hx hb hr (fun t ht hW => ⟨⟨_, (), rfl, rfl, by rw [ht]; exact hP, hD⟩, hS.F ht⟩) hS.2.2 dX10_linesOf_25
set_option maxHeartbeats 8000000 in
set_option maxRecDepth 100000 in
theorem kX10_needed (l : Launch) (D : va_G) (cI cC cS : ClassId) (aD : Nat × Nat × Nat × Nat × Nat × Nat × Nat × Nat × Nat × Nat × Nat) (vD0 : (Nat → Int32)) (vD1 : (Nat → Int32)) (vD2 : Int32) (vD3 : Int32) (vD4 : (Nat → Int32)) (vD5 : Int32) (vD6 : Int32) (vD7 : Int32) (vD8 : Int32) (vD9 : Int32) (vD10 : Int32) (vD11 : (Nat → Int32)) (vD12 : (Nat → Int32)) (vD13 : Int32) (vD14 : Int32) (vD15 : (Nat → Int32)) (vD16 : Int32) (vD17 : Int32) (vD18 : Int32) (vD19 : (Nat → Int32)) (vD20 : (Nat → Int32)) (vD21 : (Nat → Int32)) (vD22 : (Nat → Int32)) (i1 : Int32) (i2 : Int32) (sz : Nat) {q : Int32} (h : pX10_needed vD0 vD15 vD17 i1 i2 = some q) : kMi l yX10_needed wsX10_needed ({ frames := 2, cells := 0, slots := 0, locals := 46 } : Room) D (kTy cI cC cS) [.ref aD.1, .int i1, .int i2] (wMD cC cI aD vD0 vD1 vD2 vD3 vD4 vD5 vD6 vD7 vD8 vD9 vD10 vD11 vD12 vD13 vD14 vD15 vD16 vD17 vD18 vD19 vD20 vD21 vD22) sz q (wMD cC cI aD vD0 vD1 vD2 vD3 vD4 vD5 vD6 vD7 vD8 vD9 vD10 vD11 vD12 vD13 vD14 vD15 vD16 vD17 vD18 vD19 vD20 vD21 vD22) := by
  refine Met.ofW (cc := cX10_needed) (maxL := 7) (ret := (some .int)) (by decide) rfl ?_
  intro p e s m args below meth c s₁ B hml hv
  obtain ⟨rfl, hsz, hP, hK, hD0, hN⟩ := hv
  have hx := B.exec
  have hb := B.bytes
  have hr := B.returns
  have hts := atoms_spec (ws := wsX10_needed) B.pre
  have hown : s.vm.findClass RX10 = some m.cls := findClass_of_methodNamed B.named
  have hlocks := B.notSynchronized
  subst hsz
  have hD := hD0.self (sz := s.heap.size)
  generalize hAe : va_A (wMD cC cI aD vD0 vD1 vD2 vD3 vD4 vD5 vD6 vD7 vD8 vD9 vD10 vD11 vD12 vD13 vD14 vD15 vD16 vD17 vD18 vD19 vD20 vD21 vD22) s.heap.size = A at hD ⊢
  have hA : ∀ q : Nat, s.heap.size ≤ q → A q := fun q h => by rw [← hAe]; exact Or.inr h
  have hS : va_S A s.heap s.heap [] := va_S.rf
  have huX10 : ∀ w ∈ u_ws RX10 TX10 23, w ∈ wsX10_needed := by decide +kernel
  have hl := lv_entry ([.ref aD.1, .int i1, .int i2]) (n := 7) (Nat.le_of_ble_eq_true rfl)
  rw [lg_entry_eq]
  generalize (lg_sl ([.ref aD.1, .int i1, .int i2]) ++ List.replicate (7 - (lg_sl ([.ref aD.1, .int i1, .int i2])).length) Slot.unset).toArray = ls at hl ⊢
  have hl : lv_has ls 7 [(0, .ref aD.1), (1, .int i1), (2, .int i2)] := hl
  have L13 : ∀ (nL13 : Nat) (y1 : Int32) (y2 : Int32) (y3 : Int32) (y4 : Int32) (y5 : Int32) (H : Heap) (locs : List Loc) (ls : Array Slot), pX10_needed_L13 vD0 vD15 vD17 nL13 y1 y2 y3 y4 y5 = some q → va_P D vwCl (wMD cC cI aD vD0 vD1 vD2 vD3 vD4 vD5 vD6 vD7 vD8 vD9 vD10 vD11 vD12 vD13 vD14 vD15 vD16 vD17 vD18 vD19 vD20 vD21 vD22) H → va_S A s.heap H locs → lv_has ls 7 [(0, .ref aD.1), (1, .int y1), (2, .int y2), (3, .int y3), (4, .int y4), (5, .int y5)] → W p l e ({ frames := 2, cells := 0, slots := 0, locals := 46 } : Room) s m ([.ref aD.1, .int i1, .int i2] : List Value).toArray below meth c H locs 0 0 (MQ below (va_Qi (fun (r : Int32) (_ : Unit) => r = q) (fun _ => kPost D (wMD cC cI aD vD0 vD1 vD2 vD3 vD4 vD5 vD6 vD7 vD8 vD9 vD10 vD11 vD12 vD13 vD14 vD15 vD16 vD17 vD18 vD19 vD20 vD21 vD22) A) A) ([.ref aD.1, .int i1, .int i2] : List Value).toArray s 0 0 A) (F0 m 13 ls []) := by
    clear h hP hS hl
    intro nL13
    induction nL13 with
    | zero => intro y1 y2 y3 y4 y5 H locs ls h; have h : (none : Option (Int32)) = some q := h; cases h
    | succ nL13 ihL13 =>
      have j79 : ∀ (y1 : Int32) (y2 : Int32) (y3 : Int32) (y5 : Int32) (t0 : Int32) (t1 : Int32) (t2 : Int32) (H : Heap) (locs : List Loc) (ls : Array Slot), pX10_needed_j79 vD0 vD15 vD17 (pX10_needed_L13 vD0 vD15 vD17 nL13) y1 y2 y3 y5 t0 t1 t2 = some q → va_P D vwCl (wMD cC cI aD vD0 vD1 vD2 vD3 vD4 vD5 vD6 vD7 vD8 vD9 vD10 vD11 vD12 vD13 vD14 vD15 vD16 vD17 vD18 vD19 vD20 vD21 vD22) H → va_S A s.heap H locs → lv_has ls 7 [(0, .ref aD.1), (1, .int y1), (2, .int y2), (3, .int y3), (5, .int y5)] → W p l e ({ frames := 2, cells := 0, slots := 0, locals := 46 } : Room) s m ([.ref aD.1, .int i1, .int i2] : List Value).toArray below meth c H locs 0 0 (MQ below (va_Qi (fun (r : Int32) (_ : Unit) => r = q) (fun _ => kPost D (wMD cC cI aD vD0 vD1 vD2 vD3 vD4 vD5 vD6 vD7 vD8 vD9 vD10 vD11 vD12 vD13 vD14 vD15 vD16 vD17 vD18 vD19 vD20 vD21 vD22) A) A) ([.ref aD.1, .int i1, .int i2] : List Value).toArray s 0 0 A) (F0 m 79 ls [.int t2, .int t1, .int t0]) := by
        skip
        intro y1 y2 y3 y5 t0 t1 t2 H locs ls h hP hS hl
        unfold pX10_needed_j79 at h
        refine lv_iadd hx hb dX10_needed_79 ?_
        refine lv_iadd hx hb dX10_needed_80 ?_
        refine lv_istore (lv' := [(4, .int (t0 + (t1 + t2))), (0, .ref aD.1), (1, .int y1), (2, .int y2), (3, .int y3), (5, .int y5)]) hx hb dX10_needed_81 hl (by decide) rfl (fun ls hl => ?_)
        refine lv_iinc (v := (y5 + (1 : Int32))) (lv' := [(5, .int (y5 + (1 : Int32))), (4, .int (t0 + (t1 + t2))), (0, .ref aD.1), (1, .int y1), (2, .int y2), (3, .int y3)]) hx hb dX10_needed_83 hl (k := 5) rfl rfl (by decide) rfl (fun ls hl => ?_)
        refine lv_goto (tgt := 13) hx hb dX10_needed_86 (by decide) ?_
        exact ihL13 y1 y2 y3 (t0 + (t1 + t2)) (y5 + (1 : Int32)) _ _ _ h hP hS (lv_sub hl [2, 3, 4, 5, 1, 0] rfl)
      have j55 : ∀ (y1 : Int32) (y2 : Int32) (y3 : Int32) (y4 : Int32) (y5 : Int32) (t0 : Int32) (H : Heap) (locs : List Loc) (ls : Array Slot), pX10_needed_j55 vD0 vD15 vD17 (pX10_needed_L13 vD0 vD15 vD17 nL13) y1 y2 y3 y4 y5 t0 = some q → va_P D vwCl (wMD cC cI aD vD0 vD1 vD2 vD3 vD4 vD5 vD6 vD7 vD8 vD9 vD10 vD11 vD12 vD13 vD14 vD15 vD16 vD17 vD18 vD19 vD20 vD21 vD22) H → va_S A s.heap H locs → lv_has ls 7 [(0, .ref aD.1), (1, .int y1), (2, .int y2), (3, .int y3), (4, .int y4), (5, .int y5)] → W p l e ({ frames := 2, cells := 0, slots := 0, locals := 46 } : Room) s m ([.ref aD.1, .int i1, .int i2] : List Value).toArray below meth c H locs 0 0 (MQ below (va_Qi (fun (r : Int32) (_ : Unit) => r = q) (fun _ => kPost D (wMD cC cI aD vD0 vD1 vD2 vD3 vD4 vD5 vD6 vD7 vD8 vD9 vD10 vD11 vD12 vD13 vD14 vD15 vD16 vD17 vD18 vD19 vD20 vD21 vD22) A) A) ([.ref aD.1, .int i1, .int i2] : List Value).toArray s 0 0 A) (F0 m 55 ls [.int t0]) := by
        skip
        intro y1 y2 y3 y4 y5 t0 H locs ls h hP hS hl
        unfold pX10_needed_j55 at h
        refine lv_istore (lv' := [(6, .int t0), (0, .ref aD.1), (1, .int y1), (2, .int y2), (3, .int y3), (4, .int y4), (5, .int y5)]) hx hb dX10_needed_55 hl (by decide) rfl (fun ls hl => ?_)
        refine lv_iload hx hb dX10_needed_57 (lv_at hl 5 rfl) ?_
        refine lv_aload_n hx hb dX10_needed_59 rfl (lv_at hl 1 rfl) ?_
        refine lv_iload_n hx hb dX10_needed_60 rfl (lv_at hl 3 rfl) ?_
        refine lv_iload hx hb dX10_needed_61 (lv_at hl 6 rfl) ?_
        obtain ⟨q6, h5, h⟩ := Option.bind_eq_some_iff.mp h
        refine kcir [0, 1, 2, 3, 4, 5, 6, 7, 8, 9, 10] (va_runV (As := [.int y2, .int y5]) (rest := [.int y4]) ⟨hx, hb, hml, hown, hts⟩ (kX10_linesOf l D cI cC cS aD vD0 vD1 vD2 vD3 vD4 vD5 vD6 vD7 vD8 vD9 vD10 vD11 vD12 vD13 vD14 vD15 vD16 vD17 vD18 vD19 vD20 vD21 vD22 y2 y5 H.size h5) (cwV 2 hts gX10_needed_X10_linesOf rfl rfl rfl (by decide +kernel) ⟨Nat.le_of_ble_eq_true rfl, Nat.le_of_ble_eq_true rfl⟩) (kpreV hK hN hP hD [0, 1, 2, 3, 4, 5, 6, 7, 8, 9, 10] rfl (by decide) 10 rfl rfl) rfl rfl hl.1 rfl (lv_room (Nat.le_of_ble_eq_true rfl)) dX10_needed_63 ⟨Nat.le_refl _, Nat.le_refl _⟩) hP hD hS hA rfl (fun H locs hP hS => ?_)
        refine lv_iload hx hb dX10_needed_66 (lv_at hl 0 rfl) ?_
        refine lv_if_eq (tgt := 78) hx hb dX10_needed_68 (by decide) (fun g => ?_) (fun g => ?_)
        · rw [if_pos g] at h
          refine lv_iconst (v := (0 : Int32)) hx hb dX10_needed_78 (by decide) ?_
          exact j79 y1 y2 y3 y5 y4 q6 (0 : Int32) _ _ _ h hP hS (lv_sub hl [1, 2, 3, 4, 6] rfl)
        · rw [if_neg g] at h
          refine lv_aload_n hx hb dX10_needed_71 rfl (lv_at hl 1 rfl) ?_
          refine va_get (D := D) (ci := 10) (v := .int vD17) (C := RX10) (T := TX10) (N := 23) hx hb hts huX10 hown hK hP 0 rfl rfl 17 (by decide) (hts (.fieldLink RX10 33 "VerseColumnsModel" "headingHeight" "I") (by decide +kernel)) (fun _ h9 => h9) rfl dX10_needed_72 ?_
          refine lv_goto (tgt := 79) hx hb dX10_needed_75 (by decide) ?_
          exact j79 y1 y2 y3 y5 y4 q6 vD17 _ _ _ h hP hS (lv_sub hl [1, 2, 3, 4, 6] rfl)
      have j50 : ∀ (y1 : Int32) (y2 : Int32) (y3 : Int32) (y4 : Int32) (y5 : Int32) (H : Heap) (locs : List Loc) (ls : Array Slot), pX10_needed_j50 vD0 vD15 vD17 (pX10_needed_L13 vD0 vD15 vD17 nL13) y1 y2 y3 y4 y5 = some q → va_P D vwCl (wMD cC cI aD vD0 vD1 vD2 vD3 vD4 vD5 vD6 vD7 vD8 vD9 vD10 vD11 vD12 vD13 vD14 vD15 vD16 vD17 vD18 vD19 vD20 vD21 vD22) H → va_S A s.heap H locs → lv_has ls 7 [(0, .ref aD.1), (1, .int y1), (2, .int y2), (3, .int y3), (4, .int y4), (5, .int y5)] → W p l e ({ frames := 2, cells := 0, slots := 0, locals := 46 } : Room) s m ([.ref aD.1, .int i1, .int i2] : List Value).toArray below meth c H locs 0 0 (MQ below (va_Qi (fun (r : Int32) (_ : Unit) => r = q) (fun _ => kPost D (wMD cC cI aD vD0 vD1 vD2 vD3 vD4 vD5 vD6 vD7 vD8 vD9 vD10 vD11 vD12 vD13 vD14 vD15 vD16 vD17 vD18 vD19 vD20 vD21 vD22) A) A) ([.ref aD.1, .int i1, .int i2] : List Value).toArray s 0 0 A) (F0 m 50 ls []) := by
        skip
        intro y1 y2 y3 y4 y5 H locs ls h hP hS hl
        unfold pX10_needed_j50 at h
        refine lv_iconst (v := (1 : Int32)) hx hb dX10_needed_50 (by decide) ?_
        refine lv_goto (tgt := 55) hx hb dX10_needed_51 (by decide) ?_
        exact j55 y1 y2 y3 y4 y5 (1 : Int32) _ _ _ h hP hS (lv_sub hl [0, 1, 2, 3, 4, 5] rfl)
      intro y1 y2 y3 y4 y5 H locs ls h hP hS hl
      have h : pX10_needed_bL13 vD0 vD15 vD17 (pX10_needed_L13 vD0 vD15 vD17 nL13) y1 y2 y3 y4 y5 = some q := h
      unfold pX10_needed_bL13 at h
      refine lv_iload hx hb dX10_needed_13 (lv_at hl 5 rfl) ?_
      refine lv_iload_n hx hb dX10_needed_15 rfl (lv_at hl 3 rfl) ?_
      refine lv_aload_n hx hb dX10_needed_16 rfl (lv_at hl 0 rfl) ?_
      refine lv_iload_n hx hb dX10_needed_17 rfl (lv_at hl 1 rfl) ?_
      refine lv_iload_n hx hb dX10_needed_18 rfl (lv_at hl 2 rfl) ?_
      obtain ⟨q4, h3, h⟩ := Option.bind_eq_some_iff.mp h
      refine kcir [0, 1, 2, 3, 4, 5, 6, 7, 8, 9, 10] (va_runV (As := [.int y1, .int y2]) (rest := [.int y3, .int y5]) ⟨hx, hb, hml, hown, hts⟩ (kX10_has l D cI cC cS aD vD0 vD1 vD2 vD3 vD4 vD5 vD6 vD7 vD8 vD9 vD10 vD11 vD12 vD13 vD14 vD15 vD16 vD17 vD18 vD19 vD20 vD21 vD22 y1 y2 H.size h3) (cwV 2 hts gX10_needed_X10_has rfl rfl rfl (by decide +kernel) ⟨Nat.le_of_ble_eq_true rfl, Nat.le_of_ble_eq_true rfl⟩) (kpreV hK hN hP hD [0, 1, 2, 3, 4, 5, 6, 7, 8, 9, 10] rfl (by decide) 10 rfl rfl) rfl rfl hl.1 rfl (lv_room (Nat.le_of_ble_eq_true rfl)) dX10_needed_19 ⟨Nat.le_refl _, Nat.le_refl _⟩) hP hD hS hA rfl (fun H locs hP hS => ?_)
      refine lv_iadd hx hb dX10_needed_22 ?_
      refine lv_icmp_ge (tgt := 89) hx hb dX10_needed_23 (by decide) (fun g => ?_) (fun g => ?_)
      · rw [if_pos g] at h
        refine lv_iload hx hb dX10_needed_89 (lv_at hl 4 rfl) ?_
        obtain rfl := Option.some.inj h
        exact W.iret (v := y4) hx hb hr (fun t ht hW => ⟨⟨_, (), rfl, rfl, by rw [ht]; exact hP, hD⟩, hS.F ht⟩) hS.2.2 dX10_needed_91
      · rw [if_neg g] at h
        refine lv_iload hx hb dX10_needed_26 (lv_at hl 5 rfl) ?_
        refine lv_if_eq (tgt := 50) hx hb dX10_needed_28 (by decide) (fun g => ?_) (fun g => ?_)
        · rw [if_pos g] at h
          exact j50 y1 y2 y3 y4 y5 _ _ _ h hP hS (lv_sub hl [0, 1, 2, 3, 4, 5] rfl)
        · rw [if_neg g] at h
          refine lv_aload_n hx hb dX10_needed_31 rfl (lv_at hl 0 rfl) ?_
          refine lv_iload_n hx hb dX10_needed_32 rfl (lv_at hl 2 rfl) ?_
          refine lv_iload hx hb dX10_needed_33 (lv_at hl 5 rfl) ?_
          obtain ⟨q8, h7, h⟩ := Option.bind_eq_some_iff.mp h
          refine kcir [0, 1, 2, 3, 4, 5, 6, 7, 8, 9, 10] (va_runV (As := [.int y2, .int y5]) (rest := []) ⟨hx, hb, hml, hown, hts⟩ (kX10_chapterOf l D cI cC cS aD vD0 vD1 vD2 vD3 vD4 vD5 vD6 vD7 vD8 vD9 vD10 vD11 vD12 vD13 vD14 vD15 vD16 vD17 vD18 vD19 vD20 vD21 vD22 y2 y5 H.size h7) (cwV 2 hts gX10_needed_X10_chapterOf rfl rfl rfl (by decide +kernel) ⟨Nat.le_of_ble_eq_true rfl, Nat.le_of_ble_eq_true rfl⟩) (kpreV hK hN hP hD [0, 1, 2, 3, 4, 5, 6, 7, 8, 9, 10] rfl (by decide) 10 rfl rfl) rfl rfl hl.1 rfl (lv_room (Nat.le_of_ble_eq_true rfl)) dX10_needed_35 ⟨Nat.le_refl _, Nat.le_refl _⟩) hP hD hS hA rfl (fun H locs hP hS => ?_)
          refine lv_aload_n hx hb dX10_needed_38 rfl (lv_at hl 0 rfl) ?_
          refine lv_iload_n hx hb dX10_needed_39 rfl (lv_at hl 2 rfl) ?_
          refine lv_iload hx hb dX10_needed_40 (lv_at hl 5 rfl) ?_
          refine lv_iconst (v := (1 : Int32)) hx hb dX10_needed_42 (by decide) ?_
          refine lv_isub hx hb dX10_needed_43 ?_
          obtain ⟨q10, h9, h⟩ := Option.bind_eq_some_iff.mp h
          refine kcir [0, 1, 2, 3, 4, 5, 6, 7, 8, 9, 10] (va_runV (As := [.int y2, .int (y5 - (1 : Int32))]) (rest := [.int q8]) ⟨hx, hb, hml, hown, hts⟩ (kX10_chapterOf l D cI cC cS aD vD0 vD1 vD2 vD3 vD4 vD5 vD6 vD7 vD8 vD9 vD10 vD11 vD12 vD13 vD14 vD15 vD16 vD17 vD18 vD19 vD20 vD21 vD22 y2 (y5 - (1 : Int32)) H.size h9) (cwV 2 hts gX10_needed_X10_chapterOf rfl rfl rfl (by decide +kernel) ⟨Nat.le_of_ble_eq_true rfl, Nat.le_of_ble_eq_true rfl⟩) (kpreV hK hN hP hD [0, 1, 2, 3, 4, 5, 6, 7, 8, 9, 10] rfl (by decide) 10 rfl rfl) rfl rfl hl.1 rfl (lv_room (Nat.le_of_ble_eq_true rfl)) dX10_needed_44 ⟨Nat.le_refl _, Nat.le_refl _⟩) hP hD hS hA rfl (fun H locs hP hS => ?_)
          refine lv_icmp_eq (tgt := 54) hx hb dX10_needed_47 (by decide) (fun g => ?_) (fun g => ?_)
          · rw [if_pos g] at h
            refine lv_iconst (v := (0 : Int32)) hx hb dX10_needed_54 (by decide) ?_
            exact j55 y1 y2 y3 y4 y5 (0 : Int32) _ _ _ h hP hS (lv_sub hl [0, 1, 2, 3, 4, 5] rfl)
          · rw [if_neg g] at h
            exact j50 y1 y2 y3 y4 y5 _ _ _ h hP hS (lv_sub hl [0, 1, 2, 3, 4, 5] rfl)
  unfold pX10_needed at h
  refine lv_aload_n hx hb dX10_needed_0 rfl (lv_at hl 0 rfl) ?_
  refine lv_iload_n hx hb dX10_needed_1 rfl (lv_at hl 1 rfl) ?_
  refine lv_iload_n hx hb dX10_needed_2 rfl (lv_at hl 2 rfl) ?_
  obtain ⟨q2, h1, h⟩ := Option.bind_eq_some_iff.mp h
  refine kcir [0, 1, 2, 3, 4, 5, 6, 7, 8, 9, 10] (va_runV (As := [.int i1, .int i2]) (rest := []) ⟨hx, hb, hml, hown, hts⟩ (kX10_firstIn l D cI cC cS aD vD0 vD1 vD2 vD3 vD4 vD5 vD6 vD7 vD8 vD9 vD10 vD11 vD12 vD13 vD14 vD15 vD16 vD17 vD18 vD19 vD20 vD21 vD22 i1 i2 s.heap.size h1) (cwV 2 hts gX10_needed_X10_firstIn rfl rfl rfl (by decide +kernel) ⟨Nat.le_of_ble_eq_true rfl, Nat.le_of_ble_eq_true rfl⟩) (kpreV hK hN hP hD [0, 1, 2, 3, 4, 5, 6, 7, 8, 9, 10] rfl (by decide) 10 rfl rfl) rfl rfl hl.1 rfl (lv_room (Nat.le_of_ble_eq_true rfl)) dX10_needed_3 ⟨Nat.le_refl _, Nat.le_refl _⟩) hP hD hS hA rfl (fun H locs hP hS => ?_)
  refine lv_istore_n (lv' := [(3, .int q2), (0, .ref aD.1), (1, .int i1), (2, .int i2)]) hx hb dX10_needed_6 rfl hl (by decide) rfl (fun ls hl => ?_)
  refine lv_iconst (v := (0 : Int32)) hx hb dX10_needed_7 (by decide) ?_
  refine lv_istore (lv' := [(4, .int (0 : Int32)), (3, .int q2), (0, .ref aD.1), (1, .int i1), (2, .int i2)]) hx hb dX10_needed_8 hl (by decide) rfl (fun ls hl => ?_)
  refine lv_iload_n hx hb dX10_needed_10 rfl (lv_at hl 1 rfl) ?_
  refine lv_istore (lv' := [(5, .int q2), (4, .int (0 : Int32)), (3, .int q2), (0, .ref aD.1), (1, .int i1), (2, .int i2)]) hx hb dX10_needed_11 hl (by decide) rfl (fun ls hl => ?_)
  exact L13 4000 i1 i2 q2 (0 : Int32) q2 _ _ _ h hP hS (lv_sub hl [3, 4, 5, 2, 1, 0] rfl)
set_option maxHeartbeats 8000000 in
set_option maxRecDepth 100000 in
theorem kX10_heightOf (l : Launch) (D : va_G) (cI cC cS : ClassId) (aD : Nat × Nat × Nat × Nat × Nat × Nat × Nat × Nat × Nat × Nat × Nat) (vD0 : (Nat → Int32)) (vD1 : (Nat → Int32)) (vD2 : Int32) (vD3 : Int32) (vD4 : (Nat → Int32)) (vD5 : Int32) (vD6 : Int32) (vD7 : Int32) (vD8 : Int32) (vD9 : Int32) (vD10 : Int32) (vD11 : (Nat → Int32)) (vD12 : (Nat → Int32)) (vD13 : Int32) (vD14 : Int32) (vD15 : (Nat → Int32)) (vD16 : Int32) (vD17 : Int32) (vD18 : Int32) (vD19 : (Nat → Int32)) (vD20 : (Nat → Int32)) (vD21 : (Nat → Int32)) (vD22 : (Nat → Int32)) (i1 : Int32) (sz : Nat) {q : Int32} (h : pX10_heightOf vD0 vD15 vD17 i1 = some q) : kMi l yX10_heightOf wsX10_heightOf ({ frames := 3, cells := 0, slots := 0, locals := 72 } : Room) D (kTy cI cC cS) [.ref aD.1, .int i1] (wMD cC cI aD vD0 vD1 vD2 vD3 vD4 vD5 vD6 vD7 vD8 vD9 vD10 vD11 vD12 vD13 vD14 vD15 vD16 vD17 vD18 vD19 vD20 vD21 vD22) sz q (wMD cC cI aD vD0 vD1 vD2 vD3 vD4 vD5 vD6 vD7 vD8 vD9 vD10 vD11 vD12 vD13 vD14 vD15 vD16 vD17 vD18 vD19 vD20 vD21 vD22) := by
  refine Met.ofW (cc := cX10_heightOf) (maxL := 4) (ret := (some .int)) (by decide) rfl ?_
  intro p e s m args below meth c s₁ B hml hv
  obtain ⟨rfl, hsz, hP, hK, hD0, hN⟩ := hv
  have hx := B.exec
  have hb := B.bytes
  have hr := B.returns
  have hts := atoms_spec (ws := wsX10_heightOf) B.pre
  have hown : s.vm.findClass RX10 = some m.cls := findClass_of_methodNamed B.named
  have hlocks := B.notSynchronized
  subst hsz
  have hD := hD0.self (sz := s.heap.size)
  generalize hAe : va_A (wMD cC cI aD vD0 vD1 vD2 vD3 vD4 vD5 vD6 vD7 vD8 vD9 vD10 vD11 vD12 vD13 vD14 vD15 vD16 vD17 vD18 vD19 vD20 vD21 vD22) s.heap.size = A at hD ⊢
  have hA : ∀ q : Nat, s.heap.size ≤ q → A q := fun q h => by rw [← hAe]; exact Or.inr h
  have hS : va_S A s.heap s.heap [] := va_S.rf
  have hl := lv_entry ([.ref aD.1, .int i1]) (n := 4) (Nat.le_of_ble_eq_true rfl)
  rw [lg_entry_eq]
  generalize (lg_sl ([.ref aD.1, .int i1]) ++ List.replicate (4 - (lg_sl ([.ref aD.1, .int i1])).length) Slot.unset).toArray = ls at hl ⊢
  have hl : lv_has ls 4 [(0, .ref aD.1), (1, .int i1)] := hl
  unfold pX10_heightOf at h
  refine lv_aload_n hx hb dX10_heightOf_0 rfl (lv_at hl 0 rfl) ?_
  refine lv_iload_n hx hb dX10_heightOf_1 rfl (lv_at hl 1 rfl) ?_
  refine lv_iconst (v := (0 : Int32)) hx hb dX10_heightOf_2 (by decide) ?_
  obtain ⟨q2, h1, h⟩ := Option.bind_eq_some_iff.mp h
  refine kcir [0, 1, 2, 3, 4, 5, 6, 7, 8, 9, 10] (va_runV (As := [.int i1, .int (0 : Int32)]) (rest := []) ⟨hx, hb, hml, hown, hts⟩ (kX10_needed l D cI cC cS aD vD0 vD1 vD2 vD3 vD4 vD5 vD6 vD7 vD8 vD9 vD10 vD11 vD12 vD13 vD14 vD15 vD16 vD17 vD18 vD19 vD20 vD21 vD22 i1 (0 : Int32) s.heap.size h1) (cwV 2 hts gX10_heightOf_X10_needed rfl rfl rfl (by decide +kernel) ⟨Nat.le_of_ble_eq_true rfl, Nat.le_of_ble_eq_true rfl⟩) (kpreV hK hN hP hD [0, 1, 2, 3, 4, 5, 6, 7, 8, 9, 10] rfl (by decide) 10 rfl rfl) rfl rfl hl.1 rfl (lv_room (Nat.le_of_ble_eq_true rfl)) dX10_heightOf_3 ⟨Nat.le_refl _, Nat.le_refl _⟩) hP hD hS hA rfl (fun H locs hP hS => ?_)
  refine lv_istore_n (lv' := [(2, .int q2), (0, .ref aD.1), (1, .int i1)]) hx hb dX10_heightOf_6 rfl hl (by decide) rfl (fun ls hl => ?_)
  refine lv_aload_n hx hb dX10_heightOf_7 rfl (lv_at hl 1 rfl) ?_
  refine lv_iload_n hx hb dX10_heightOf_8 rfl (lv_at hl 2 rfl) ?_
  refine lv_iconst (v := (1 : Int32)) hx hb dX10_heightOf_9 (by decide) ?_
  obtain ⟨q4, h3, h⟩ := Option.bind_eq_some_iff.mp h
  refine kcir [0, 1, 2, 3, 4, 5, 6, 7, 8, 9, 10] (va_runV (As := [.int i1, .int (1 : Int32)]) (rest := []) ⟨hx, hb, hml, hown, hts⟩ (kX10_needed l D cI cC cS aD vD0 vD1 vD2 vD3 vD4 vD5 vD6 vD7 vD8 vD9 vD10 vD11 vD12 vD13 vD14 vD15 vD16 vD17 vD18 vD19 vD20 vD21 vD22 i1 (1 : Int32) H.size h3) (cwV 2 hts gX10_heightOf_X10_needed rfl rfl rfl (by decide +kernel) ⟨Nat.le_of_ble_eq_true rfl, Nat.le_of_ble_eq_true rfl⟩) (kpreV hK hN hP hD [0, 1, 2, 3, 4, 5, 6, 7, 8, 9, 10] rfl (by decide) 10 rfl rfl) rfl rfl hl.1 rfl (lv_room (Nat.le_of_ble_eq_true rfl)) dX10_heightOf_10 ⟨Nat.le_refl _, Nat.le_refl _⟩) hP hD hS hA rfl (fun H locs hP hS => ?_)
  refine lv_istore_n (lv' := [(3, .int q4), (2, .int q2), (0, .ref aD.1), (1, .int i1)]) hx hb dX10_heightOf_13 rfl hl (by decide) rfl (fun ls hl => ?_)
  refine lv_iload_n hx hb dX10_heightOf_14 rfl (lv_at hl 1 rfl) ?_
  refine lv_iload_n hx hb dX10_heightOf_15 rfl (lv_at hl 0 rfl) ?_
  refine lv_icmp_le (tgt := 23) hx hb dX10_heightOf_16 (by decide) (fun g => ?_) (fun g => ?_)
  · rw [if_pos g] at h
    refine lv_iload_n hx hb dX10_heightOf_23 rfl (lv_at hl 0 rfl) ?_
    obtain rfl := Option.some.inj h
    exact W.iret (v := q4) hx hb hr (fun t ht hW => ⟨⟨_, (), rfl, rfl, by rw [ht]; exact hP, hD⟩, hS.F ht⟩) hS.2.2 dX10_heightOf_24
  · rw [if_neg g] at h
    refine lv_iload_n hx hb dX10_heightOf_19 rfl (lv_at hl 1 rfl) ?_
    refine lv_goto (tgt := 24) hx hb dX10_heightOf_20 (by decide) ?_
    obtain rfl := Option.some.inj h
    exact W.iret (v := q2) hx hb hr (fun t ht hW => ⟨⟨_, (), rfl, rfl, by rw [ht]; exact hP, hD⟩, hS.F ht⟩) hS.2.2 dX10_heightOf_24
set_option maxHeartbeats 8000000 in
set_option maxRecDepth 100000 in
theorem kX10_notesOf (l : Launch) (D : va_G) (cI cC cS : ClassId) (aD : Nat × Nat × Nat × Nat × Nat × Nat × Nat × Nat × Nat × Nat × Nat) (vD0 : (Nat → Int32)) (vD1 : (Nat → Int32)) (vD2 : Int32) (vD3 : Int32) (vD4 : (Nat → Int32)) (vD5 : Int32) (vD6 : Int32) (vD7 : Int32) (vD8 : Int32) (vD9 : Int32) (vD10 : Int32) (vD11 : (Nat → Int32)) (vD12 : (Nat → Int32)) (vD13 : Int32) (vD14 : Int32) (vD15 : (Nat → Int32)) (vD16 : Int32) (vD17 : Int32) (vD18 : Int32) (vD19 : (Nat → Int32)) (vD20 : (Nat → Int32)) (vD21 : (Nat → Int32)) (vD22 : (Nat → Int32)) (i1 : Int32) (sz : Nat) {q : Int32} (h : pX10_notesOf vD0 i1 = some q) : kMi l yX10_notesOf wsX10_notesOf ({ frames := 2, cells := 0, slots := 0, locals := 46 } : Room) D (kTy cI cC cS) [.ref aD.1, .int i1] (wMD cC cI aD vD0 vD1 vD2 vD3 vD4 vD5 vD6 vD7 vD8 vD9 vD10 vD11 vD12 vD13 vD14 vD15 vD16 vD17 vD18 vD19 vD20 vD21 vD22) sz q (wMD cC cI aD vD0 vD1 vD2 vD3 vD4 vD5 vD6 vD7 vD8 vD9 vD10 vD11 vD12 vD13 vD14 vD15 vD16 vD17 vD18 vD19 vD20 vD21 vD22) := by
  refine Met.ofW (cc := cX10_notesOf) (maxL := 6) (ret := (some .int)) (by decide) rfl ?_
  intro p e s m args below meth c s₁ B hml hv
  obtain ⟨rfl, hsz, hP, hK, hD0, hN⟩ := hv
  have hx := B.exec
  have hb := B.bytes
  have hr := B.returns
  have hts := atoms_spec (ws := wsX10_notesOf) B.pre
  have hown : s.vm.findClass RX10 = some m.cls := findClass_of_methodNamed B.named
  have hlocks := B.notSynchronized
  subst hsz
  have hD := hD0.self (sz := s.heap.size)
  generalize hAe : va_A (wMD cC cI aD vD0 vD1 vD2 vD3 vD4 vD5 vD6 vD7 vD8 vD9 vD10 vD11 vD12 vD13 vD14 vD15 vD16 vD17 vD18 vD19 vD20 vD21 vD22) s.heap.size = A at hD ⊢
  have hA : ∀ q : Nat, s.heap.size ≤ q → A q := fun q h => by rw [← hAe]; exact Or.inr h
  have hS : va_S A s.heap s.heap [] := va_S.rf
  have huX10 : ∀ w ∈ u_ws RX10 TX10 23, w ∈ wsX10_notesOf := by decide +kernel
  have hl := lv_entry ([.ref aD.1, .int i1]) (n := 6) (Nat.le_of_ble_eq_true rfl)
  rw [lg_entry_eq]
  generalize (lg_sl ([.ref aD.1, .int i1]) ++ List.replicate (6 - (lg_sl ([.ref aD.1, .int i1])).length) Slot.unset).toArray = ls at hl ⊢
  have hl : lv_has ls 6 [(0, .ref aD.1), (1, .int i1)] := hl
  have L4 : ∀ (nL4 : Nat) (y1 : Int32) (y2 : Int32) (y3 : Int32) (H : Heap) (locs : List Loc) (ls : Array Slot), pX10_notesOf_L4 vD0 nL4 y1 y2 y3 = some q → va_P D vwCl (wMD cC cI aD vD0 vD1 vD2 vD3 vD4 vD5 vD6 vD7 vD8 vD9 vD10 vD11 vD12 vD13 vD14 vD15 vD16 vD17 vD18 vD19 vD20 vD21 vD22) H → va_S A s.heap H locs → lv_has ls 6 [(0, .ref aD.1), (1, .int y1), (2, .int y2), (3, .int y3)] → W p l e ({ frames := 2, cells := 0, slots := 0, locals := 46 } : Room) s m ([.ref aD.1, .int i1] : List Value).toArray below meth c H locs 0 0 (MQ below (va_Qi (fun (r : Int32) (_ : Unit) => r = q) (fun _ => kPost D (wMD cC cI aD vD0 vD1 vD2 vD3 vD4 vD5 vD6 vD7 vD8 vD9 vD10 vD11 vD12 vD13 vD14 vD15 vD16 vD17 vD18 vD19 vD20 vD21 vD22) A) A) ([.ref aD.1, .int i1] : List Value).toArray s 0 0 A) (F0 m 4 ls []) := by
    clear h hP hS hl
    intro nL4
    induction nL4 with
    | zero => intro y1 y2 y3 H locs ls h; have h : (none : Option (Int32)) = some q := h; cases h
    | succ nL4 ihL4 =>
      have L21 : ∀ (nL21 : Nat) (y1 : Int32) (y2 : Int32) (y3 : Int32) (y4 : Int32) (y5 : Int32) (H : Heap) (locs : List Loc) (ls : Array Slot), pX10_notesOf_L21 vD0 (pX10_notesOf_L4 vD0 nL4) nL21 y1 y2 y3 y4 y5 = some q → va_P D vwCl (wMD cC cI aD vD0 vD1 vD2 vD3 vD4 vD5 vD6 vD7 vD8 vD9 vD10 vD11 vD12 vD13 vD14 vD15 vD16 vD17 vD18 vD19 vD20 vD21 vD22) H → va_S A s.heap H locs → lv_has ls 6 [(0, .ref aD.1), (1, .int y1), (2, .int y2), (3, .int y3), (4, .int y4), (5, .int y5)] → W p l e ({ frames := 2, cells := 0, slots := 0, locals := 46 } : Room) s m ([.ref aD.1, .int i1] : List Value).toArray below meth c H locs 0 0 (MQ below (va_Qi (fun (r : Int32) (_ : Unit) => r = q) (fun _ => kPost D (wMD cC cI aD vD0 vD1 vD2 vD3 vD4 vD5 vD6 vD7 vD8 vD9 vD10 vD11 vD12 vD13 vD14 vD15 vD16 vD17 vD18 vD19 vD20 vD21 vD22) A) A) ([.ref aD.1, .int i1] : List Value).toArray s 0 0 A) (F0 m 21 ls []) := by
        intro nL21
        induction nL21 with
        | zero => intro y1 y2 y3 y4 y5 H locs ls h; have h : (none : Option (Int32)) = some q := h; cases h
        | succ nL21 ihL21 =>
          intro y1 y2 y3 y4 y5 H locs ls h hP hS hl
          have h : pX10_notesOf_bL21 vD0 (pX10_notesOf_L4 vD0 nL4) (pX10_notesOf_L21 vD0 (pX10_notesOf_L4 vD0 nL4) nL21) y1 y2 y3 y4 y5 = some q := h
          unfold pX10_notesOf_bL21 at h
          refine lv_iload hx hb dX10_notesOf_21 (lv_at hl 5 rfl) ?_
          refine lv_iload hx hb dX10_notesOf_23 (lv_at hl 4 rfl) ?_
          refine lv_aload_n hx hb dX10_notesOf_25 rfl (lv_at hl 0 rfl) ?_
          refine lv_iload_n hx hb dX10_notesOf_26 rfl (lv_at hl 1 rfl) ?_
          refine lv_iload_n hx hb dX10_notesOf_27 rfl (lv_at hl 3 rfl) ?_
          obtain ⟨q4, h3, h⟩ := Option.bind_eq_some_iff.mp h
          refine kcir [0, 1, 2, 3, 4, 5, 6, 7, 8, 9, 10] (va_runV (As := [.int y1, .int y3]) (rest := [.int y4, .int y5]) ⟨hx, hb, hml, hown, hts⟩ (kX10_has l D cI cC cS aD vD0 vD1 vD2 vD3 vD4 vD5 vD6 vD7 vD8 vD9 vD10 vD11 vD12 vD13 vD14 vD15 vD16 vD17 vD18 vD19 vD20 vD21 vD22 y1 y3 H.size h3) (cwV 2 hts gX10_notesOf_X10_has rfl rfl rfl (by decide +kernel) ⟨Nat.le_of_ble_eq_true rfl, Nat.le_of_ble_eq_true rfl⟩) (kpreV hK hN hP hD [0, 1, 2, 3, 4, 5, 6, 7, 8, 9, 10] rfl (by decide) 10 rfl rfl) rfl rfl hl.1 rfl (lv_room (Nat.le_of_ble_eq_true rfl)) dX10_notesOf_28 ⟨Nat.le_refl _, Nat.le_refl _⟩) hP hD hS hA rfl (fun H locs hP hS => ?_)
          refine lv_iadd hx hb dX10_notesOf_31 ?_
          refine lv_icmp_ge (tgt := 59) hx hb dX10_notesOf_32 (by decide) (fun g => ?_) (fun g => ?_)
          · rw [if_pos g] at h
            refine lv_iinc (v := (y3 + (1 : Int32))) (lv' := [(3, .int (y3 + (1 : Int32))), (0, .ref aD.1), (1, .int y1), (2, .int y2), (4, .int y4), (5, .int y5)]) hx hb dX10_notesOf_59 hl (k := 3) rfl rfl (by decide) rfl (fun ls hl => ?_)
            refine lv_goto (tgt := 4) hx hb dX10_notesOf_62 (by decide) ?_
            exact ihL4 y1 y2 (y3 + (1 : Int32)) _ _ _ h hP hS (lv_sub hl [1, 2, 3, 0] rfl)
          · rw [if_neg g] at h
            refine lv_iload_n hx hb dX10_notesOf_35 rfl (lv_at hl 2 rfl) ?_
            refine lv_aload_n hx hb dX10_notesOf_36 rfl (lv_at hl 0 rfl) ?_
            refine va_get (D := D) (ci := 10) (v := .ref aD.2.1) (C := RX10) (T := TX10) (N := 23) hx hb hts huX10 hown hK hP 0 rfl rfl 0 (by decide) (hts (.fieldLink RX10 7 "VerseColumnsModel" "row" "[I") (by decide +kernel)) (fun _ h9 => h9) rfl dX10_notesOf_37 ?_
            refine lv_bipush (v := (120 : Int32)) hx hb dX10_notesOf_40 (by decide) ?_
            refine lv_bipush (v := (60 : Int32)) hx hb dX10_notesOf_42 (by decide) ?_
            refine lv_iload_n hx hb dX10_notesOf_44 rfl (lv_at hl 3 rfl) ?_
            refine lv_imul hx hb dX10_notesOf_45 ?_
            refine lv_iadd hx hb dX10_notesOf_46 ?_
            refine lv_iload hx hb dX10_notesOf_47 (lv_at hl 5 rfl) ?_
            refine lv_iadd hx hb dX10_notesOf_49 ?_
            obtain ⟨g, h⟩ := kif h
            refine va_iald hx hb hK hP 1 0 rfl rfl (kin g) dX10_notesOf_50 ?_
            refine lv_iadd hx hb dX10_notesOf_51 ?_
            refine lv_istore_n (lv' := [(2, .int (y2 + (vD0 (((120 : Int32) + ((60 : Int32) * y3)) + y5).toNatClampNeg))), (0, .ref aD.1), (1, .int y1), (3, .int y3), (4, .int y4), (5, .int y5)]) hx hb dX10_notesOf_52 rfl hl (by decide) rfl (fun ls hl => ?_)
            refine lv_iinc (v := (y5 + (1 : Int32))) (lv' := [(5, .int (y5 + (1 : Int32))), (2, .int (y2 + (vD0 (((120 : Int32) + ((60 : Int32) * y3)) + y5).toNatClampNeg))), (0, .ref aD.1), (1, .int y1), (3, .int y3), (4, .int y4)]) hx hb dX10_notesOf_53 hl (k := 5) rfl rfl (by decide) rfl (fun ls hl => ?_)
            refine lv_goto (tgt := 21) hx hb dX10_notesOf_56 (by decide) ?_
            exact ihL21 y1 (y2 + (vD0 (((120 : Int32) + ((60 : Int32) * y3)) + y5).toNatClampNeg)) y3 y4 (y5 + (1 : Int32)) _ _ _ h hP hS (lv_sub hl [2, 3, 1, 4, 5, 0] rfl)
      intro y1 y2 y3 H locs ls h hP hS hl
      have h : pX10_notesOf_bL4 vD0 (pX10_notesOf_L4 vD0 nL4) y1 y2 y3 = some q := h
      unfold pX10_notesOf_bL4 at h
      refine lv_iload_n hx hb dX10_notesOf_4 rfl (lv_at hl 3 rfl) ?_
      refine lv_iconst (v := (2 : Int32)) hx hb dX10_notesOf_5 (by decide) ?_
      refine lv_icmp_ge (tgt := 65) hx hb dX10_notesOf_6 (by decide) (fun g => ?_) (fun g => ?_)
      · rw [if_pos g] at h
        refine lv_iload_n hx hb dX10_notesOf_65 rfl (lv_at hl 2 rfl) ?_
        obtain rfl := Option.some.inj h
        exact W.iret (v := y2) hx hb hr (fun t ht hW => ⟨⟨_, (), rfl, rfl, by rw [ht]; exact hP, hD⟩, hS.F ht⟩) hS.2.2 dX10_notesOf_66
      · rw [if_neg g] at h
        refine lv_aload_n hx hb dX10_notesOf_9 rfl (lv_at hl 0 rfl) ?_
        refine lv_iload_n hx hb dX10_notesOf_10 rfl (lv_at hl 1 rfl) ?_
        refine lv_iload_n hx hb dX10_notesOf_11 rfl (lv_at hl 3 rfl) ?_
        obtain ⟨q2, h1, h⟩ := Option.bind_eq_some_iff.mp h
        refine kcir [0, 1, 2, 3, 4, 5, 6, 7, 8, 9, 10] (va_runV (As := [.int y1, .int y3]) (rest := []) ⟨hx, hb, hml, hown, hts⟩ (kX10_firstIn l D cI cC cS aD vD0 vD1 vD2 vD3 vD4 vD5 vD6 vD7 vD8 vD9 vD10 vD11 vD12 vD13 vD14 vD15 vD16 vD17 vD18 vD19 vD20 vD21 vD22 y1 y3 H.size h1) (cwV 2 hts gX10_notesOf_X10_firstIn rfl rfl rfl (by decide +kernel) ⟨Nat.le_of_ble_eq_true rfl, Nat.le_of_ble_eq_true rfl⟩) (kpreV hK hN hP hD [0, 1, 2, 3, 4, 5, 6, 7, 8, 9, 10] rfl (by decide) 10 rfl rfl) rfl rfl hl.1 rfl (lv_room (Nat.le_of_ble_eq_true rfl)) dX10_notesOf_12 ⟨Nat.le_refl _, Nat.le_refl _⟩) hP hD hS hA rfl (fun H locs hP hS => ?_)
        refine lv_istore (lv' := [(4, .int q2), (0, .ref aD.1), (1, .int y1), (2, .int y2), (3, .int y3)]) hx hb dX10_notesOf_15 hl (by decide) rfl (fun ls hl => ?_)
        refine lv_iload hx hb dX10_notesOf_17 (lv_at hl 0 rfl) ?_
        refine lv_istore (lv' := [(5, .int q2), (4, .int q2), (0, .ref aD.1), (1, .int y1), (2, .int y2), (3, .int y3)]) hx hb dX10_notesOf_19 hl (by decide) rfl (fun ls hl => ?_)
        exact L21 4000 y1 y2 y3 q2 q2 _ _ _ h hP hS (lv_sub hl [2, 3, 4, 5, 1, 0] rfl)
  unfold pX10_notesOf at h
  refine lv_iconst (v := (0 : Int32)) hx hb dX10_notesOf_0 (by decide) ?_
  refine lv_istore_n (lv' := [(2, .int (0 : Int32)), (0, .ref aD.1), (1, .int i1)]) hx hb dX10_notesOf_1 rfl hl (by decide) rfl (fun ls hl => ?_)
  refine lv_iconst (v := (0 : Int32)) hx hb dX10_notesOf_2 (by decide) ?_
  refine lv_istore_n (lv' := [(3, .int (0 : Int32)), (2, .int (0 : Int32)), (0, .ref aD.1), (1, .int i1)]) hx hb dX10_notesOf_3 rfl hl (by decide) rfl (fun ls hl => ?_)
  exact L4 4000 i1 (0 : Int32) (0 : Int32) _ _ _ h hP hS (lv_sub hl [2, 3, 1, 0] rfl)
set_option maxHeartbeats 8000000 in
set_option maxRecDepth 100000 in
theorem kX10_withLine (l : Launch) (D : va_G) (cI cC cS : ClassId) (i1 : Int32) (sz : Nat) {q : Int32} (h : pX10_withLine i1 = some q) : kMi l yX10_withLine wsX10_withLine ({ frames := 0, cells := 0, slots := 0, locals := 0 } : Room) D (kTy cI cC cS) [.int i1] ([] : va_W) sz q ([] : va_W) := by
  refine Met.ofW (cc := cX10_withLine) (maxL := 1) (ret := (some .int)) (by decide) rfl ?_
  intro p e s m args below meth c s₁ B hml hv
  obtain ⟨rfl, hsz, hP, hK, hD0, hN⟩ := hv
  have hx := B.exec
  have hb := B.bytes
  have hr := B.returns
  have hts := atoms_spec (ws := wsX10_withLine) B.pre
  have hown : s.vm.findClass RX10 = some m.cls := findClass_of_methodNamed B.named
  have hlocks := B.notSynchronized
  subst hsz
  have hD := hD0.self (sz := s.heap.size)
  generalize hAe : va_A ([] : va_W) s.heap.size = A at hD ⊢
  have hA : ∀ q : Nat, s.heap.size ≤ q → A q := fun q h => by rw [← hAe]; exact Or.inr h
  have hS : va_S A s.heap s.heap [] := va_S.rf
  have hl := lv_entry ([.int i1]) (n := 1) (Nat.le_of_ble_eq_true rfl)
  rw [lg_entry_eq]
  generalize (lg_sl ([.int i1]) ++ List.replicate (1 - (lg_sl ([.int i1])).length) Slot.unset).toArray = ls at hl ⊢
  have hl : lv_has ls 1 [(0, .int i1)] := hl
  unfold pX10_withLine at h
  refine lv_iload_n hx hb dX10_withLine_0 rfl (lv_at hl 0 rfl) ?_
  refine lv_if_le (tgt := 10) hx hb dX10_withLine_1 (by decide) (fun g => ?_) (fun g => ?_)
  · rw [if_pos g] at h
    refine lv_iconst (v := (0 : Int32)) hx hb dX10_withLine_10 (by decide) ?_
    obtain rfl := Option.some.inj h
    exact W.iret (v := (0 : Int32)) hx hb hr (fun t ht hW => ⟨⟨_, (), rfl, rfl, by rw [ht]; exact hP, hD⟩, hS.F ht⟩) hS.2.2 dX10_withLine_11
  · rw [if_neg g] at h
    refine lv_iload_n hx hb dX10_withLine_4 rfl (lv_at hl 0 rfl) ?_
    refine lv_iconst (v := (1 : Int32)) hx hb dX10_withLine_5 (by decide) ?_
    refine lv_iadd hx hb dX10_withLine_6 ?_
    refine lv_goto (tgt := 11) hx hb dX10_withLine_7 (by decide) ?_
    obtain rfl := Option.some.inj h
    exact W.iret (v := (i1 + (1 : Int32))) hx hb hr (fun t ht hW => ⟨⟨_, (), rfl, rfl, by rw [ht]; exact hP, hD⟩, hS.F ht⟩) hS.2.2 dX10_withLine_11
