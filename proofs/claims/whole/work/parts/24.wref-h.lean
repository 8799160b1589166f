-- walks: ref (printed by wip/whole/gen)
set_option maxHeartbeats 8000000 in
set_option maxRecDepth 100000 in
theorem kX10_needs (l : Launch) (D : va_G) (cI cC cS : ClassId) (aD : Nat × Nat × Nat × Nat × Nat × Nat × Nat × Nat × Nat × Nat × Nat) (vD0 : (Nat → Int32)) (vD1 : (Nat → Int32)) (vD2 : Int32) (vD3 : Int32) (vD4 : (Nat → Int32)) (vD5 : Int32) (vD6 : Int32) (vD7 : Int32) (vD8 : Int32) (vD9 : Int32) (vD10 : Int32) (vD11 : (Nat → Int32)) (vD12 : (Nat → Int32)) (vD13 : Int32) (vD14 : Int32) (vD15 : (Nat → Int32)) (vD16 : Int32) (vD17 : Int32) (vD18 : Int32) (vD19 : (Nat → Int32)) (vD20 : (Nat → Int32)) (vD21 : (Nat → Int32)) (vD22 : (Nat → Int32)) (i1 : Int32) (sz : Nat) {q : Int32 × Int32} (h : pX10_needs vD5 vD6 vD7 i1 = some q) : kMv l yX10_needs wsX10_needs ({ frames := 0, cells := 0, slots := 0, locals := 0 } : Room) D (kTy cI cC cS) [.ref aD.1, .int i1] (wMD cC cI aD vD0 vD1 vD2 vD3 vD4 vD5 vD6 vD7 vD8 vD9 vD10 vD11 vD12 vD13 vD14 vD15 vD16 vD17 vD18 vD19 vD20 vD21 vD22) sz (wMD cC cI aD vD0 vD1 vD2 vD3 vD4 q.1 q.2 vD7 vD8 vD9 vD10 vD11 vD12 vD13 vD14 vD15 vD16 vD17 vD18 vD19 vD20 vD21 vD22) := by
  refine Met.ofW (cc := cX10_needs) (maxL := 2) (ret := none) (by decide) rfl ?_
  intro p e s m args below meth c s₁ B hml hv
  obtain ⟨rfl, hsz, hP, hK, hD0, hN⟩ := hv
  have hx := B.exec
  have hb := B.bytes
  have hr := B.returns
  have hts := atoms_spec (ws := wsX10_needs) B.pre
  have hown : s.vm.findClass RX10 = some m.cls := findClass_of_methodNamed B.named
  have hlocks := B.notSynchronized
  subst hsz
  have hD := hD0.self (sz := s.heap.size)
  generalize hAe : va_A (wMD cC cI aD vD0 vD1 vD2 vD3 vD4 vD5 vD6 vD7 vD8 vD9 vD10 vD11 vD12 vD13 vD14 vD15 vD16 vD17 vD18 vD19 vD20 vD21 vD22) s.heap.size = A at hD ⊢
  have hA : ∀ q : Nat, s.heap.size ≤ q → A q := fun q h => by rw [← hAe]; exact Or.inr h
  have hS : va_S A s.heap s.heap [] := va_S.rf
  have huX10 : ∀ w ∈ u_ws RX10 TX10 23, w ∈ wsX10_needs := by decide +kernel
  have hl := lv_entry ([.ref aD.1, .int i1]) (n := 2) (Nat.le_of_ble_eq_true rfl)
  rw [lg_entry_eq]
  generalize (lg_sl ([.ref aD.1, .int i1]) ++ List.replicate (2 - (lg_sl ([.ref aD.1, .int i1])).length) Slot.unset).toArray = ls at hl ⊢
  have hl : lv_has ls 2 [(0, .ref aD.1), (1, .int i1)] := hl
  unfold pX10_needs at h
  refine lv_aload_n hx hb dX10_needs_0 rfl (lv_at hl 0 rfl) ?_
  refine va_get (D := D) (ci := 10) (v := .int vD6) (C := RX10) (T := TX10) (N := 23) hx hb hts huX10 hown hK hP 0 rfl rfl 6 (by decide) (hts (.fieldLink RX10 109 "VerseColumnsModel" "isGood" "Z") (by decide +kernel)) (fun _ h9 => h9) rfl dX10_needs_1 ?_
  refine lv_if_eq (tgt := 24) hx hb dX10_needs_4 (by decide) (fun g => ?_) (fun g => ?_)
  · rw [if_pos g] at h
    obtain rfl := Option.some.inj h
    exact W.vret hx hb hr (fun t ht hW => ⟨⟨(), rfl, trivial, by rw [ht]; exact hP, hD⟩, hS.F ht⟩) hS.2.2 dX10_needs_24
  · rw [if_neg g] at h
    refine lv_iload_n hx hb dX10_needs_7 rfl (lv_at hl 1 rfl) ?_
    refine lv_if_ne (tgt := 24) hx hb dX10_needs_8 (by decide) (fun g => ?_) (fun g => ?_)
    · rw [if_neg g] at h
      obtain rfl := Option.some.inj h
      exact W.vret hx hb hr (fun t ht hW => ⟨⟨(), rfl, trivial, by rw [ht]; exact hP, hD⟩, hS.F ht⟩) hS.2.2 dX10_needs_24
    · rw [if_pos g] at h
      refine lv_aload_n hx hb dX10_needs_11 rfl (lv_at hl 0 rfl) ?_
      refine lv_iconst (v := (0 : Int32)) hx hb dX10_needs_12 (by decide) ?_
      refine va_put (D := D) (ci := 10) (v := .int (0 : Int32)) (ty := .boolean) (C := RX10) (T := TX10) (N := 23) hx hb hts huX10 tyX10 tyX10_ok nmX10 hown hK hP hD hS 0 rfl rfl 6 (by decide) (hts (.fieldLink RX10 109 "VerseColumnsModel" "isGood" "Z") (by decide +kernel)) (fun _ h9 => h9) rfl (by decide +kernel) rfl rfl (Nat.le_of_ble_eq_true rfl) dX10_needs_13 (fun H locs hP hD hS => ?_)
      have hP : va_P D vwCl (wMD cC cI aD vD0 vD1 vD2 vD3 vD4 vD5 (0 : Int32) vD7 vD8 vD9 vD10 vD11 vD12 vD13 vD14 vD15 vD16 vD17 vD18 vD19 vD20 vD21 vD22) H := hP
      have hD : va_D A (wMD cC cI aD vD0 vD1 vD2 vD3 vD4 vD5 (0 : Int32) vD7 vD8 vD9 vD10 vD11 vD12 vD13 vD14 vD15 vD16 vD17 vD18 vD19 vD20 vD21 vD22) := hD
      refine lv_aload_n hx hb dX10_needs_16 rfl (lv_at hl 0 rfl) ?_
      refine lv_aload_n hx hb dX10_needs_17 rfl (lv_at hl 0 rfl) ?_
      refine va_get (D := D) (ci := 10) (v := .int vD7) (C := RX10) (T := TX10) (N := 23) hx hb hts huX10 hown hK hP 0 rfl rfl 7 (by decide) (hts (.fieldLink RX10 106 "VerseColumnsModel" "numberAt" "I") (by decide +kernel)) (fun _ h9 => h9) rfl dX10_needs_18 ?_
      refine va_put (D := D) (ci := 10) (v := .int vD7) (ty := .int) (C := RX10) (T := TX10) (N := 23) hx hb hts huX10 tyX10 tyX10_ok nmX10 hown hK hP hD hS 0 rfl rfl 5 (by decide) (hts (.fieldLink RX10 103 "VerseColumnsModel" "place" "I") (by decide +kernel)) (fun _ h9 => h9) rfl (by decide +kernel) rfl rfl (Nat.le_of_ble_eq_true rfl) dX10_needs_21 (fun H locs hP hD hS => ?_)
      have hP : va_P D vwCl (wMD cC cI aD vD0 vD1 vD2 vD3 vD4 vD7 (0 : Int32) vD7 vD8 vD9 vD10 vD11 vD12 vD13 vD14 vD15 vD16 vD17 vD18 vD19 vD20 vD21 vD22) H := hP
      have hD : va_D A (wMD cC cI aD vD0 vD1 vD2 vD3 vD4 vD7 (0 : Int32) vD7 vD8 vD9 vD10 vD11 vD12 vD13 vD14 vD15 vD16 vD17 vD18 vD19 vD20 vD21 vD22) := hD
      obtain rfl := Option.some.inj h
      exact W.vret hx hb hr (fun t ht hW => ⟨⟨(), rfl, trivial, by rw [ht]; exact hP, hD⟩, hS.F ht⟩) hS.2.2 dX10_needs_24
set_option maxHeartbeats 8000000 in
set_option maxRecDepth 100000 in
theorem kX10_sign (l : Launch) (D : va_G) (cI cC cS : ClassId) (aD : Nat × Nat × Nat × Nat × Nat × Nat × Nat × Nat × Nat × Nat × Nat) (vD0 : (Nat → Int32)) (vD1 : (Nat → Int32)) (vD2 : Int32) (vD3 : Int32) (vD4 : (Nat → Int32)) (vD5 : Int32) (vD6 : Int32) (vD7 : Int32) (vD8 : Int32) (vD9 : Int32) (vD10 : Int32) (vD11 : (Nat → Int32)) (vD12 : (Nat → Int32)) (vD13 : Int32) (vD14 : Int32) (vD15 : (Nat → Int32)) (vD16 : Int32) (vD17 : Int32) (vD18 : Int32) (vD19 : (Nat → Int32)) (vD20 : (Nat → Int32)) (vD21 : (Nat → Int32)) (vD22 : (Nat → Int32)) (i1 : Int32) (sz : Nat) {q : Int32 × Int32} (h : pX10_sign vD3 vD4 vD5 vD6 i1 = some q) : kMv l yX10_sign wsX10_sign ({ frames := 1, cells := 0, slots := 0, locals := 22 } : Room) D (kTy cI cC cS) [.ref aD.1, .int i1] (wMD cC cI aD vD0 vD1 vD2 vD3 vD4 vD5 vD6 vD7 vD8 vD9 vD10 vD11 vD12 vD13 vD14 vD15 vD16 vD17 vD18 vD19 vD20 vD21 vD22) sz (wMD cC cI aD vD0 vD1 vD2 vD3 vD4 q.1 q.2 vD7 vD8 vD9 vD10 vD11 vD12 vD13 vD14 vD15 vD16 vD17 vD18 vD19 vD20 vD21 vD22) := by
  refine Met.ofW (cc := cX10_sign) (maxL := 2) (ret := none) (by decide) rfl ?_
  intro p e s m args below meth c s₁ B hml hv
  obtain ⟨rfl, hsz, hP, hK, hD0, hN⟩ := hv
  have hx := B.exec
  have hb := B.bytes
  have hr := B.returns
  have hts := atoms_spec (ws := wsX10_sign) B.pre
  have hown : s.vm.findClass RX10 = some m.cls := findClass_of_methodNamed B.named
  have hlocks := B.notSynchronized
  subst hsz
  have hD := hD0.self (sz := s.heap.size)
  generalize hAe : va_A (wMD cC cI aD vD0 vD1 vD2 vD3 vD4 vD5 vD6 vD7 vD8 vD9 vD10 vD11 vD12 vD13 vD14 vD15 vD16 vD17 vD18 vD19 vD20 vD21 vD22) s.heap.size = A at hD ⊢
  have hA : ∀ q : Nat, s.heap.size ≤ q → A q := fun q h => by rw [← hAe]; exact Or.inr h
  have hS : va_S A s.heap s.heap [] := va_S.rf
  have huX10 : ∀ w ∈ u_ws RX10 TX10 23, w ∈ wsX10_sign := by decide +kernel
  have hl := lv_entry ([.ref aD.1, .int i1]) (n := 2) (Nat.le_of_ble_eq_true rfl)
  rw [lg_entry_eq]
  generalize (lg_sl ([.ref aD.1, .int i1]) ++ List.replicate (2 - (lg_sl ([.ref aD.1, .int i1])).length) Slot.unset).toArray = ls at hl ⊢
  have hl : lv_has ls 2 [(0, .ref aD.1), (1, .int i1)] := hl
  unfold pX10_sign at h
  refine lv_aload_n hx hb dX10_sign_0 rfl (lv_at hl 0 rfl) ?_
  refine va_get (D := D) (ci := 10) (v := .int vD6) (C := RX10) (T := TX10) (N := 23) hx hb hts huX10 hown hK hP 0 rfl rfl 6 (by decide) (hts (.fieldLink RX10 109 "VerseColumnsModel" "isGood" "Z") (by decide +kernel)) (fun _ h9 => h9) rfl dX10_sign_1 ?_
  refine lv_if_eq (tgt := 29) hx hb dX10_sign_4 (by decide) (fun g => ?_) (fun g => ?_)
  · rw [if_pos g] at h
    refine lv_aload_n hx hb dX10_sign_29 rfl (lv_at hl 0 rfl) ?_
    refine lv_iconst (v := (0 : Int32)) hx hb dX10_sign_30 (by decide) ?_
    refine va_put (D := D) (ci := 10) (v := .int (0 : Int32)) (ty := .boolean) (C := RX10) (T := TX10) (N := 23) hx hb hts huX10 tyX10 tyX10_ok nmX10 hown hK hP hD hS 0 rfl rfl 6 (by decide) (hts (.fieldLink RX10 109 "VerseColumnsModel" "isGood" "Z") (by decide +kernel)) (fun _ h9 => h9) rfl (by decide +kernel) rfl rfl (Nat.le_of_ble_eq_true rfl) dX10_sign_31 (fun H locs hP hD hS => ?_)
    have hP : va_P D vwCl (wMD cC cI aD vD0 vD1 vD2 vD3 vD4 vD5 (0 : Int32) vD7 vD8 vD9 vD10 vD11 vD12 vD13 vD14 vD15 vD16 vD17 vD18 vD19 vD20 vD21 vD22) H := hP
    have hD : va_D A (wMD cC cI aD vD0 vD1 vD2 vD3 vD4 vD5 (0 : Int32) vD7 vD8 vD9 vD10 vD11 vD12 vD13 vD14 vD15 vD16 vD17 vD18 vD19 vD20 vD21 vD22) := hD
    obtain rfl := Option.some.inj h
    exact W.vret hx hb hr (fun t ht hW => ⟨⟨(), rfl, trivial, by rw [ht]; exact hP, hD⟩, hS.F ht⟩) hS.2.2 dX10_sign_34
  · rw [if_neg g] at h
    refine lv_aload_n hx hb dX10_sign_7 rfl (lv_at hl 0 rfl) ?_
    refine lv_iload_n hx hb dX10_sign_8 rfl (lv_at hl 1 rfl) ?_
    refine lv_iload_n hx hb dX10_sign_9 rfl (lv_at hl 1 rfl) ?_
    obtain ⟨q2, h1, h⟩ := Option.bind_eq_some_iff.mp h
    refine kcir [0, 1, 2, 3, 4, 5, 6, 7, 8, 9, 10] (va_runV (As := [.int i1, .int i1]) (rest := []) ⟨hx, hb, hml, hown, hts⟩ (kX10_isAt l D cI cC cS aD vD0 vD1 vD2 vD3 vD4 vD5 vD6 vD7 vD8 vD9 vD10 vD11 vD12 vD13 vD14 vD15 vD16 vD17 vD18 vD19 vD20 vD21 vD22 i1 i1 s.heap.size h1) (cwV 2 hts gX10_sign_X10_isAt rfl rfl rfl (by decide +kernel) ⟨Nat.le_of_ble_eq_true rfl, Nat.le_of_ble_eq_true rfl⟩) (kpreV hK hN hP hD [0, 1, 2, 3, 4, 5, 6, 7, 8, 9, 10] rfl (by decide) 10 rfl rfl) rfl rfl hl.1 rfl (lv_room (Nat.le_of_ble_eq_true rfl)) dX10_sign_10 ⟨Nat.le_refl _, Nat.le_refl _⟩) hP hD hS hA rfl (fun H locs hP hS => ?_)
    refine lv_if_eq (tgt := 29) hx hb dX10_sign_13 (by decide) (fun g => ?_) (fun g => ?_)
    · rw [if_pos g] at h
      refine lv_aload_n hx hb dX10_sign_29 rfl (lv_at hl 0 rfl) ?_
      refine lv_iconst (v := (0 : Int32)) hx hb dX10_sign_30 (by decide) ?_
      refine va_put (D := D) (ci := 10) (v := .int (0 : Int32)) (ty := .boolean) (C := RX10) (T := TX10) (N := 23) hx hb hts huX10 tyX10 tyX10_ok nmX10 hown hK hP hD hS 0 rfl rfl 6 (by decide) (hts (.fieldLink RX10 109 "VerseColumnsModel" "isGood" "Z") (by decide +kernel)) (fun _ h9 => h9) rfl (by decide +kernel) rfl rfl (Nat.le_of_ble_eq_true rfl) dX10_sign_31 (fun H locs hP hD hS => ?_)
      have hP : va_P D vwCl (wMD cC cI aD vD0 vD1 vD2 vD3 vD4 vD5 (0 : Int32) vD7 vD8 vD9 vD10 vD11 vD12 vD13 vD14 vD15 vD16 vD17 vD18 vD19 vD20 vD21 vD22) H := hP
      have hD : va_D A (wMD cC cI aD vD0 vD1 vD2 vD3 vD4 vD5 (0 : Int32) vD7 vD8 vD9 vD10 vD11 vD12 vD13 vD14 vD15 vD16 vD17 vD18 vD19 vD20 vD21 vD22) := hD
      obtain rfl := Option.some.inj h
      exact W.vret hx hb hr (fun t ht hW => ⟨⟨(), rfl, trivial, by rw [ht]; exact hP, hD⟩, hS.F ht⟩) hS.2.2 dX10_sign_34
    · rw [if_neg g] at h
      refine lv_aload_n hx hb dX10_sign_16 rfl (lv_at hl 0 rfl) ?_
      refine lv_dup hx hb dX10_sign_17 rfl ?_
      refine va_get (D := D) (ci := 10) (v := .int vD5) (C := RX10) (T := TX10) (N := 23) hx hb hts huX10 hown hK hP 0 rfl rfl 5 (by decide) (hts (.fieldLink RX10 103 "VerseColumnsModel" "place" "I") (by decide +kernel)) (fun _ h9 => h9) rfl dX10_sign_18 ?_
      refine lv_iconst (v := (1 : Int32)) hx hb dX10_sign_21 (by decide) ?_
      refine lv_iadd hx hb dX10_sign_22 ?_
      refine va_put (D := D) (ci := 10) (v := .int (vD5 + (1 : Int32))) (ty := .int) (C := RX10) (T := TX10) (N := 23) hx hb hts huX10 tyX10 tyX10_ok nmX10 hown hK hP hD hS 0 rfl rfl 5 (by decide) (hts (.fieldLink RX10 103 "VerseColumnsModel" "place" "I") (by decide +kernel)) (fun _ h9 => h9) rfl (by decide +kernel) rfl rfl (Nat.le_of_ble_eq_true rfl) dX10_sign_23 (fun H locs hP hD hS => ?_)
      have hP : va_P D vwCl (wMD cC cI aD vD0 vD1 vD2 vD3 vD4 (vD5 + (1 : Int32)) vD6 vD7 vD8 vD9 vD10 vD11 vD12 vD13 vD14 vD15 vD16 vD17 vD18 vD19 vD20 vD21 vD22) H := hP
      have hD : va_D A (wMD cC cI aD vD0 vD1 vD2 vD3 vD4 (vD5 + (1 : Int32)) vD6 vD7 vD8 vD9 vD10 vD11 vD12 vD13 vD14 vD15 vD16 vD17 vD18 vD19 vD20 vD21 vD22) := hD
      refine lv_goto (tgt := 34) hx hb dX10_sign_26 (by decide) ?_
      obtain rfl := Option.some.inj h
      exact W.vret hx hb hr (fun t ht hW => ⟨⟨(), rfl, trivial, by rw [ht]; exact hP, hD⟩, hS.F ht⟩) hS.2.2 dX10_sign_34
set_option maxHeartbeats 8000000 in
set_option maxRecDepth 100000 in
theorem kX10_put (l : Launch) (D : va_G) (cI cC cS : ClassId) (aD : Nat × Nat × Nat × Nat × Nat × Nat × Nat × Nat × Nat × Nat × Nat) (vD0 : (Nat → Int32)) (vD1 : (Nat → Int32)) (vD2 : Int32) (vD3 : Int32) (vD4 : (Nat → Int32)) (vD5 : Int32) (vD6 : Int32) (vD7 : Int32) (vD8 : Int32) (vD9 : Int32) (vD10 : Int32) (vD11 : (Nat → Int32)) (vD12 : (Nat → Int32)) (vD13 : Int32) (vD14 : Int32) (vD15 : (Nat → Int32)) (vD16 : Int32) (vD17 : Int32) (vD18 : Int32) (vD19 : (Nat → Int32)) (vD20 : (Nat → Int32)) (vD21 : (Nat → Int32)) (vD22 : (Nat → Int32)) (i1 : Int32) (i2 : Int32) (sz : Nat) {q : Int32 × Int32 × Int32 × (Nat → Int32) × (Nat → Int32)} (h : pX10_put vD8 vD9 vD10 vD11 vD12 i1 i2 = some q) : kMv l yX10_put wsX10_put ({ frames := 0, cells := 0, slots := 0, locals := 0 } : Room) D (kTy cI cC cS) [.ref aD.1, .int i1, .int i2] (wMD cC cI aD vD0 vD1 vD2 vD3 vD4 vD5 vD6 vD7 vD8 vD9 vD10 vD11 vD12 vD13 vD14 vD15 vD16 vD17 vD18 vD19 vD20 vD21 vD22) sz (wMD cC cI aD vD0 vD1 vD2 vD3 vD4 vD5 vD6 vD7 q.1 q.2.1 q.2.2.1 q.2.2.2.1 q.2.2.2.2 vD13 vD14 vD15 vD16 vD17 vD18 vD19 vD20 vD21 vD22) := by
  refine Met.ofW (cc := cX10_put) (maxL := 3) (ret := none) (by decide) rfl ?_
  intro p e s m args below meth c s₁ B hml hv
  obtain ⟨rfl, hsz, hP, hK, hD0, hN⟩ := hv
  have hx := B.exec
  have hb := B.bytes
  have hr := B.returns
  have hts := atoms_spec (ws := wsX10_put) B.pre
  have hown : s.vm.findClass RX10 = some m.cls := findClass_of_methodNamed B.named
  have hlocks := B.notSynchronized
  subst hsz
  have hD := hD0.self (sz := s.heap.size)
  generalize hAe : va_A (wMD cC cI aD vD0 vD1 vD2 vD3 vD4 vD5 vD6 vD7 vD8 vD9 vD10 vD11 vD12 vD13 vD14 vD15 vD16 vD17 vD18 vD19 vD20 vD21 vD22) s.heap.size = A at hD ⊢
  have hA : ∀ q : Nat, s.heap.size ≤ q → A q := fun q h => by rw [← hAe]; exact Or.inr h
  have hS : va_S A s.heap s.heap [] := va_S.rf
  have huX10 : ∀ w ∈ u_ws RX10 TX10 23, w ∈ wsX10_put := by decide +kernel
  have hl := lv_entry ([.ref aD.1, .int i1, .int i2]) (n := 3) (Nat.le_of_ble_eq_true rfl)
  rw [lg_entry_eq]
  generalize (lg_sl ([.ref aD.1, .int i1, .int i2]) ++ List.replicate (3 - (lg_sl ([.ref aD.1, .int i1, .int i2])).length) Slot.unset).toArray = ls at hl ⊢
  have hl : lv_has ls 3 [(0, .ref aD.1), (1, .int i1), (2, .int i2)] := hl
  unfold pX10_put at h
  refine lv_aload_n hx hb dX10_put_0 rfl (lv_at hl 0 rfl) ?_
  refine va_get (D := D) (ci := 10) (v := .ref aD.2.2.2.2.1) (C := RX10) (T := TX10) (N := 23) hx hb hts huX10 hown hK hP 0 rfl rfl 11 (by decide) (hts (.fieldLink RX10 20 "VerseColumnsModel" "readLeft" "[I") (by decide +kernel)) (fun _ h9 => h9) rfl dX10_put_1 ?_
  refine lv_aload_n hx hb dX10_put_4 rfl (lv_at hl 0 rfl) ?_
  refine va_get (D := D) (ci := 10) (v := .int vD10) (C := RX10) (T := TX10) (N := 23) hx hb hts huX10 hown hK hP 0 rfl rfl 10 (by decide) (hts (.fieldLink RX10 117 "VerseColumnsModel" "read" "I") (by decide +kernel)) (fun _ h9 => h9) rfl dX10_put_5 ?_
  refine lv_iload_n hx hb dX10_put_8 rfl (lv_at hl 1 rfl) ?_
  obtain ⟨g, h⟩ := kif h
  refine va_iast hx hb hK hP hD hS 4 0 rfl rfl (kin g) dX10_put_9 (fun H locs hP hD hS => ?_)
  have hP : va_P D vwCl (wMD cC cI aD vD0 vD1 vD2 vD3 vD4 vD5 vD6 vD7 vD8 vD9 vD10 (upd vD11 vD10.toNatClampNeg i1) vD12 vD13 vD14 vD15 vD16 vD17 vD18 vD19 vD20 vD21 vD22) H := hP
  have hD : va_D A (wMD cC cI aD vD0 vD1 vD2 vD3 vD4 vD5 vD6 vD7 vD8 vD9 vD10 (upd vD11 vD10.toNatClampNeg i1) vD12 vD13 vD14 vD15 vD16 vD17 vD18 vD19 vD20 vD21 vD22) := hD
  refine lv_aload_n hx hb dX10_put_10 rfl (lv_at hl 0 rfl) ?_
  refine va_get (D := D) (ci := 10) (v := .ref aD.2.2.2.2.2.1) (C := RX10) (T := TX10) (N := 23) hx hb hts huX10 hown hK hP 0 rfl rfl 12 (by decide) (hts (.fieldLink RX10 23 "VerseColumnsModel" "readRight" "[I") (by decide +kernel)) (fun _ h9 => h9) rfl dX10_put_11 ?_
  refine lv_aload_n hx hb dX10_put_14 rfl (lv_at hl 0 rfl) ?_
  refine va_get (D := D) (ci := 10) (v := .int vD10) (C := RX10) (T := TX10) (N := 23) hx hb hts huX10 hown hK hP 0 rfl rfl 10 (by decide) (hts (.fieldLink RX10 117 "VerseColumnsModel" "read" "I") (by decide +kernel)) (fun _ h9 => h9) rfl dX10_put_15 ?_
  refine lv_iload_n hx hb dX10_put_18 rfl (lv_at hl 2 rfl) ?_
  obtain ⟨g, h⟩ := kif h
  refine va_iast hx hb hK hP hD hS 5 0 rfl rfl (kin g) dX10_put_19 (fun H locs hP hD hS => ?_)
  have hP : va_P D vwCl (wMD cC cI aD vD0 vD1 vD2 vD3 vD4 vD5 vD6 vD7 vD8 vD9 vD10 (upd vD11 vD10.toNatClampNeg i1) (upd vD12 vD10.toNatClampNeg i2) vD13 vD14 vD15 vD16 vD17 vD18 vD19 vD20 vD21 vD22) H := hP
  have hD : va_D A (wMD cC cI aD vD0 vD1 vD2 vD3 vD4 vD5 vD6 vD7 vD8 vD9 vD10 (upd vD11 vD10.toNatClampNeg i1) (upd vD12 vD10.toNatClampNeg i2) vD13 vD14 vD15 vD16 vD17 vD18 vD19 vD20 vD21 vD22) := hD
  refine lv_aload_n hx hb dX10_put_20 rfl (lv_at hl 0 rfl) ?_
  refine lv_dup hx hb dX10_put_21 rfl ?_
  refine va_get (D := D) (ci := 10) (v := .int vD10) (C := RX10) (T := TX10) (N := 23) hx hb hts huX10 hown hK hP 0 rfl rfl 10 (by decide) (hts (.fieldLink RX10 117 "VerseColumnsModel" "read" "I") (by decide +kernel)) (fun _ h9 => h9) rfl dX10_put_22 ?_
  refine lv_iconst (v := (1 : Int32)) hx hb dX10_put_25 (by decide) ?_
  refine lv_iadd hx hb dX10_put_26 ?_
  refine va_put (D := D) (ci := 10) (v := .int (vD10 + (1 : Int32))) (ty := .int) (C := RX10) (T := TX10) (N := 23) hx hb hts huX10 tyX10 tyX10_ok nmX10 hown hK hP hD hS 0 rfl rfl 10 (by decide) (hts (.fieldLink RX10 117 "VerseColumnsModel" "read" "I") (by decide +kernel)) (fun _ h9 => h9) rfl (by decide +kernel) rfl rfl (Nat.le_of_ble_eq_true rfl) dX10_put_27 (fun H locs hP hD hS => ?_)
  have hP : va_P D vwCl (wMD cC cI aD vD0 vD1 vD2 vD3 vD4 vD5 vD6 vD7 vD8 vD9 (vD10 + (1 : Int32)) (upd vD11 vD10.toNatClampNeg i1) (upd vD12 vD10.toNatClampNeg i2) vD13 vD14 vD15 vD16 vD17 vD18 vD19 vD20 vD21 vD22) H := hP
  have hD : va_D A (wMD cC cI aD vD0 vD1 vD2 vD3 vD4 vD5 vD6 vD7 vD8 vD9 (vD10 + (1 : Int32)) (upd vD11 vD10.toNatClampNeg i1) (upd vD12 vD10.toNatClampNeg i2) vD13 vD14 vD15 vD16 vD17 vD18 vD19 vD20 vD21 vD22) := hD
  refine lv_aload_n hx hb dX10_put_30 rfl (lv_at hl 0 rfl) ?_
  refine lv_dup hx hb dX10_put_31 rfl ?_
  refine va_get (D := D) (ci := 10) (v := .int vD8) (C := RX10) (T := TX10) (N := 23) hx hb hts huX10 hown hK hP 0 rfl rfl 8 (by decide) (hts (.fieldLink RX10 120 "VerseColumnsModel" "leftOver" "I") (by decide +kernel)) (fun _ h9 => h9) rfl dX10_put_32 ?_
  refine lv_iload_n hx hb dX10_put_35 rfl (lv_at hl 1 rfl) ?_
  refine lv_isub hx hb dX10_put_36 ?_
  refine va_put (D := D) (ci := 10) (v := .int (vD8 - i1)) (ty := .int) (C := RX10) (T := TX10) (N := 23) hx hb hts huX10 tyX10 tyX10_ok nmX10 hown hK hP hD hS 0 rfl rfl 8 (by decide) (hts (.fieldLink RX10 120 "VerseColumnsModel" "leftOver" "I") (by decide +kernel)) (fun _ h9 => h9) rfl (by decide +kernel) rfl rfl (Nat.le_of_ble_eq_true rfl) dX10_put_37 (fun H locs hP hD hS => ?_)
  have hP : va_P D vwCl (wMD cC cI aD vD0 vD1 vD2 vD3 vD4 vD5 vD6 vD7 (vD8 - i1) vD9 (vD10 + (1 : Int32)) (upd vD11 vD10.toNatClampNeg i1) (upd vD12 vD10.toNatClampNeg i2) vD13 vD14 vD15 vD16 vD17 vD18 vD19 vD20 vD21 vD22) H := hP
  have hD : va_D A (wMD cC cI aD vD0 vD1 vD2 vD3 vD4 vD5 vD6 vD7 (vD8 - i1) vD9 (vD10 + (1 : Int32)) (upd vD11 vD10.toNatClampNeg i1) (upd vD12 vD10.toNatClampNeg i2) vD13 vD14 vD15 vD16 vD17 vD18 vD19 vD20 vD21 vD22) := hD
  refine lv_aload_n hx hb dX10_put_40 rfl (lv_at hl 0 rfl) ?_
  refine lv_dup hx hb dX10_put_41 rfl ?_
  refine va_get (D := D) (ci := 10) (v := .int vD9) (C := RX10) (T := TX10) (N := 23) hx hb hts huX10 hown hK hP 0 rfl rfl 9 (by decide) (hts (.fieldLink RX10 123 "VerseColumnsModel" "rightOver" "I") (by decide +kernel)) (fun _ h9 => h9) rfl dX10_put_42 ?_
  refine lv_iload_n hx hb dX10_put_45 rfl (lv_at hl 2 rfl) ?_
  refine lv_isub hx hb dX10_put_46 ?_
  refine va_put (D := D) (ci := 10) (v := .int (vD9 - i2)) (ty := .int) (C := RX10) (T := TX10) (N := 23) hx hb hts huX10 tyX10 tyX10_ok nmX10 hown hK hP hD hS 0 rfl rfl 9 (by decide) (hts (.fieldLink RX10 123 "VerseColumnsModel" "rightOver" "I") (by decide +kernel)) (fun _ h9 => h9) rfl (by decide +kernel) rfl rfl (Nat.le_of_ble_eq_true rfl) dX10_put_47 (fun H locs hP hD hS => ?_)
  have hP : va_P D vwCl (wMD cC cI aD vD0 vD1 vD2 vD3 vD4 vD5 vD6 vD7 (vD8 - i1) (vD9 - i2) (vD10 + (1 : Int32)) (upd vD11 vD10.toNatClampNeg i1) (upd vD12 vD10.toNatClampNeg i2) vD13 vD14 vD15 vD16 vD17 vD18 vD19 vD20 vD21 vD22) H := hP
  have hD : va_D A (wMD cC cI aD vD0 vD1 vD2 vD3 vD4 vD5 vD6 vD7 (vD8 - i1) (vD9 - i2) (vD10 + (1 : Int32)) (upd vD11 vD10.toNatClampNeg i1) (upd vD12 vD10.toNatClampNeg i2) vD13 vD14 vD15 vD16 vD17 vD18 vD19 vD20 vD21 vD22) := hD
  obtain rfl := Option.some.inj h
  exact W.vret hx hb hr (fun t ht hW => ⟨⟨(), rfl, trivial, by rw [ht]; exact hP, hD⟩, hS.F ht⟩) hS.2.2 dX10_put_50
set_option maxHeartbeats 8000000 in
set_option maxRecDepth 100000 in
theorem kX10_firstOf (l : Launch) (D : va_G) (cI cC cS : ClassId) (aD : Nat × Nat × Nat × Nat × Nat × Nat × Nat × Nat × Nat × Nat × Nat) (vD0 : (Nat → Int32)) (vD1 : (Nat → Int32)) (vD2 : Int32) (vD3 : Int32) (vD4 : (Nat → Int32)) (vD5 : Int32) (vD6 : Int32) (vD7 : Int32) (vD8 : Int32) (vD9 : Int32) (vD10 : Int32) (vD11 : (Nat → Int32)) (vD12 : (Nat → Int32)) (vD13 : Int32) (vD14 : Int32) (vD15 : (Nat → Int32)) (vD16 : Int32) (vD17 : Int32) (vD18 : Int32) (vD19 : (Nat → Int32)) (vD20 : (Nat → Int32)) (vD21 : (Nat → Int32)) (vD22 : (Nat → Int32)) (i1 : Int32) (i2 : Int32) (sz : Nat) {q : Int32} (h : pX10_firstOf vD0 i1 i2 = some q) : kMi l yX10_firstOf wsX10_firstOf ({ frames := 1, cells := 0, slots := 0, locals := 22 } : Room) D (kTy cI cC cS) [.ref aD.1, .int i1, .int i2] (wMD cC cI aD vD0 vD1 vD2 vD3 vD4 vD5 vD6 vD7 vD8 vD9 vD10 vD11 vD12 vD13 vD14 vD15 vD16 vD17 vD18 vD19 vD20 vD21 vD22) sz q (wMD cC cI aD vD0 vD1 vD2 vD3 vD4 vD5 vD6 vD7 vD8 vD9 vD10 vD11 vD12 vD13 vD14 vD15 vD16 vD17 vD18 vD19 vD20 vD21 vD22) := by
  refine Met.ofW (cc := cX10_firstOf) (maxL := 4) (ret := (some .int)) (by decide) rfl ?_
  intro p e s m args below meth c s₁ B hml hv
  obtain ⟨rfl, hsz, hP, hK, hD0, hN⟩ := hv
  have hx := B.exec
  have hb := B.bytes
  have hr := B.returns
  have hts := atoms_spec (ws := wsX10_firstOf) B.pre
  have hown : s.vm.findClass RX10 = some m.cls := findClass_of_methodNamed B.named
  have hlocks := B.notSynchronized
  subst hsz
  have hD := hD0.self (sz := s.heap.size)
  generalize hAe : va_A (wMD cC cI aD vD0 vD1 vD2 vD3 vD4 vD5 vD6 vD7 vD8 vD9 vD10 vD11 vD12 vD13 vD14 vD15 vD16 vD17 vD18 vD19 vD20 vD21 vD22) s.heap.size = A at hD ⊢
  have hA : ∀ q : Nat, s.heap.size ≤ q → A q := fun q h => by rw [← hAe]; exact Or.inr h
  have hS : va_S A s.heap s.heap [] := va_S.rf
  have hl := lv_entry ([.ref aD.1, .int i1, .int i2]) (n := 4) (Nat.le_of_ble_eq_true rfl)
  rw [lg_entry_eq]
  generalize (lg_sl ([.ref aD.1, .int i1, .int i2]) ++ List.replicate (4 - (lg_sl ([.ref aD.1, .int i1, .int i2])).length) Slot.unset).toArray = ls at hl ⊢
  have hl : lv_has ls 4 [(0, .ref aD.1), (1, .int i1), (2, .int i2)] := hl
  have L2 : ∀ (nL2 : Nat) (y1 : Int32) (y2 : Int32) (y3 : Int32) (H : Heap) (locs : List Loc) (ls : Array Slot), pX10_firstOf_L2 vD0 nL2 y1 y2 y3 = some q → va_P D vwCl (wMD cC cI aD vD0 vD1 vD2 vD3 vD4 vD5 vD6 vD7 vD8 vD9 vD10 vD11 vD12 vD13 vD14 vD15 vD16 vD17 vD18 vD19 vD20 vD21 vD22) H → va_S A s.heap H locs → lv_has ls 4 [(0, .ref aD.1), (1, .int y1), (2, .int y2), (3, .int y3)] → W p l e ({ frames := 1, cells := 0, slots := 0, locals := 22 } : Room) s m ([.ref aD.1, .int i1, .int i2] : List Value).toArray below meth c H locs 0 0 (MQ below (va_Qi (fun (r : Int32) (_ : Unit) => r = q) (fun _ => kPost D (wMD cC cI aD vD0 vD1 vD2 vD3 vD4 vD5 vD6 vD7 vD8 vD9 vD10 vD11 vD12 vD13 vD14 vD15 vD16 vD17 vD18 vD19 vD20 vD21 vD22) A) A) ([.ref aD.1, .int i1, .int i2] : List Value).toArray s 0 0 A) (F0 m 2 ls []) := by
    clear h hP hS hl
    intro nL2
    induction nL2 with
    | zero => intro y1 y2 y3 H locs ls h; have h : (none : Option (Int32)) = some q := h; cases h
    | succ nL2 ihL2 =>
      intro y1 y2 y3 H locs ls h hP hS hl
      have h : pX10_firstOf_bL2 vD0 (pX10_firstOf_L2 vD0 nL2) y1 y2 y3 = some q := h
      unfold pX10_firstOf_bL2 at h
      refine lv_aload_n hx hb dX10_firstOf_2 rfl (lv_at hl 0 rfl) ?_
      refine lv_iload_n hx hb dX10_firstOf_3 rfl (lv_at hl 1 rfl) ?_
      refine lv_iload_n hx hb dX10_firstOf_4 rfl (lv_at hl 3 rfl) ?_
      obtain ⟨q2, h1, h⟩ := Option.bind_eq_some_iff.mp h
      refine kcir [0, 1, 2, 3, 4, 5, 6, 7, 8, 9, 10] (va_runV (As := [.int y1, .int y3]) (rest := []) ⟨hx, hb, hml, hown, hts⟩ (kX10_chapterOf l D cI cC cS aD vD0 vD1 vD2 vD3 vD4 vD5 vD6 vD7 vD8 vD9 vD10 vD11 vD12 vD13 vD14 vD15 vD16 vD17 vD18 vD19 vD20 vD21 vD22 y1 y3 H.size h1) (cwV 2 hts gX10_firstOf_X10_chapterOf rfl rfl rfl (by decide +kernel) ⟨Nat.le_of_ble_eq_true rfl, Nat.le_of_ble_eq_true rfl⟩) (kpreV hK hN hP hD [0, 1, 2, 3, 4, 5, 6, 7, 8, 9, 10] rfl (by decide) 10 rfl rfl) rfl rfl hl.1 rfl (lv_room (Nat.le_of_ble_eq_true rfl)) dX10_firstOf_5 ⟨Nat.le_refl _, Nat.le_refl _⟩) hP hD hS hA rfl (fun H locs hP hS => ?_)
      refine lv_iload_n hx hb dX10_firstOf_8 rfl (lv_at hl 2 rfl) ?_
      refine lv_icmp_eq (tgt := 18) hx hb dX10_firstOf_9 (by decide) (fun g => ?_) (fun g => ?_)
      · rw [if_pos g] at h
        refine lv_iload_n hx hb dX10_firstOf_18 rfl (lv_at hl 3 rfl) ?_
        obtain rfl := Option.some.inj h
        exact W.iret (v := y3) hx hb hr (fun t ht hW => ⟨⟨_, (), rfl, rfl, by rw [ht]; exact hP, hD⟩, hS.F ht⟩) hS.2.2 dX10_firstOf_19
      · rw [if_neg g] at h
        refine lv_iinc (v := (y3 + (1 : Int32))) (lv' := [(3, .int (y3 + (1 : Int32))), (0, .ref aD.1), (1, .int y1), (2, .int y2)]) hx hb dX10_firstOf_12 hl (k := 3) rfl rfl (by decide) rfl (fun ls hl => ?_)
        refine lv_goto (tgt := 2) hx hb dX10_firstOf_15 (by decide) ?_
        exact ihL2 y1 y2 (y3 + (1 : Int32)) _ _ _ h hP hS (lv_sub hl [1, 2, 3, 0] rfl)
  unfold pX10_firstOf at h
  refine lv_iconst (v := (0 : Int32)) hx hb dX10_firstOf_0 (by decide) ?_
  refine lv_istore_n (lv' := [(3, .int (0 : Int32)), (0, .ref aD.1), (1, .int i1), (2, .int i2)]) hx hb dX10_firstOf_1 rfl hl (by decide) rfl (fun ls hl => ?_)
  exact L2 4000 i1 i2 (0 : Int32) _ _ _ h hP hS (lv_sub hl [1, 2, 3, 0] rfl)
set_option maxHeartbeats 8000000 in
set_option maxRecDepth 100000 in
theorem kX10_versesOf (l : Launch) (D : va_G) (cI cC cS : ClassId) (aD : Nat × Nat × Nat × Nat × Nat × Nat × Nat × Nat × Nat × Nat × Nat) (vD0 : (Nat → Int32)) (vD1 : (Nat → Int32)) (vD2 : Int32) (vD3 : Int32) (vD4 : (Nat → Int32)) (vD5 : Int32) (vD6 : Int32) (vD7 : Int32) (vD8 : Int32) (vD9 : Int32) (vD10 : Int32) (vD11 : (Nat → Int32)) (vD12 : (Nat → Int32)) (vD13 : Int32) (vD14 : Int32) (vD15 : (Nat → Int32)) (vD16 : Int32) (vD17 : Int32) (vD18 : Int32) (vD19 : (Nat → Int32)) (vD20 : (Nat → Int32)) (vD21 : (Nat → Int32)) (vD22 : (Nat → Int32)) (i1 : Int32) (i2 : Int32) (sz : Nat) {q : Int32} (h : pX10_versesOf vD0 i1 i2 = some q) : kMi l yX10_versesOf wsX10_versesOf ({ frames := 1, cells := 0, slots := 0, locals := 22 } : Room) D (kTy cI cC cS) [.ref aD.1, .int i1, .int i2] (wMD cC cI aD vD0 vD1 vD2 vD3 vD4 vD5 vD6 vD7 vD8 vD9 vD10 vD11 vD12 vD13 vD14 vD15 vD16 vD17 vD18 vD19 vD20 vD21 vD22) sz q (wMD cC cI aD vD0 vD1 vD2 vD3 vD4 vD5 vD6 vD7 vD8 vD9 vD10 vD11 vD12 vD13 vD14 vD15 vD16 vD17 vD18 vD19 vD20 vD21 vD22) := by
  refine Met.ofW (cc := cX10_versesOf) (maxL := 5) (ret := (some .int)) (by decide) rfl ?_
  intro p e s m args below meth c s₁ B hml hv
  obtain ⟨rfl, hsz, hP, hK, hD0, hN⟩ := hv
  have hx := B.exec
  have hb := B.bytes
  have hr := B.returns
  have hts := atoms_spec (ws := wsX10_versesOf) B.pre
  have hown : s.vm.findClass RX10 = some m.cls := findClass_of_methodNamed B.named
  have hlocks := B.notSynchronized
  subst hsz
  have hD := hD0.self (sz := s.heap.size)
  generalize hAe : va_A (wMD cC cI aD vD0 vD1 vD2 vD3 vD4 vD5 vD6 vD7 vD8 vD9 vD10 vD11 vD12 vD13 vD14 vD15 vD16 vD17 vD18 vD19 vD20 vD21 vD22) s.heap.size = A at hD ⊢
  have hA : ∀ q : Nat, s.heap.size ≤ q → A q := fun q h => by rw [← hAe]; exact Or.inr h
  have hS : va_S A s.heap s.heap [] := va_S.rf
  have hl := lv_entry ([.ref aD.1, .int i1, .int i2]) (n := 5) (Nat.le_of_ble_eq_true rfl)
  rw [lg_entry_eq]
  generalize (lg_sl ([.ref aD.1, .int i1, .int i2]) ++ List.replicate (5 - (lg_sl ([.ref aD.1, .int i1, .int i2])).length) Slot.unset).toArray = ls at hl ⊢
  have hl : lv_has ls 5 [(0, .ref aD.1), (1, .int i1), (2, .int i2)] := hl
  have L5 : ∀ (nL5 : Nat) (y1 : Int32) (y2 : Int32) (y3 : Int32) (y4 : Int32) (H : Heap) (locs : List Loc) (ls : Array Slot), pX10_versesOf_L5 vD0 nL5 y1 y2 y3 y4 = some q → va_P D vwCl (wMD cC cI aD vD0 vD1 vD2 vD3 vD4 vD5 vD6 vD7 vD8 vD9 vD10 vD11 vD12 vD13 vD14 vD15 vD16 vD17 vD18 vD19 vD20 vD21 vD22) H → va_S A s.heap H locs → lv_has ls 5 [(0, .ref aD.1), (1, .int y1), (2, .int y2), (3, .int y3), (4, .int y4)] → W p l e ({ frames := 1, cells := 0, slots := 0, locals := 22 } : Room) s m ([.ref aD.1, .int i1, .int i2] : List Value).toArray below meth c H locs 0 0 (MQ below (va_Qi (fun (r : Int32) (_ : Unit) => r = q) (fun _ => kPost D (wMD cC cI aD vD0 vD1 vD2 vD3 vD4 vD5 vD6 vD7 vD8 vD9 vD10 vD11 vD12 vD13 vD14 vD15 vD16 vD17 vD18 vD19 vD20 vD21 vD22) A) A) ([.ref aD.1, .int i1, .int i2] : List Value).toArray s 0 0 A) (F0 m 5 ls []) := by
    clear h hP hS hl
    intro nL5
    induction nL5 with
    | zero => intro y1 y2 y3 y4 H locs ls h; have h : (none : Option (Int32)) = some q := h; cases h
    | succ nL5 ihL5 =>
      have j32 : ∀ (y1 : Int32) (y2 : Int32) (y4 : Int32) (t0 : Int32) (t1 : Int32) (H : Heap) (locs : List Loc) (ls : Array Slot), pX10_versesOf_j32 vD0 (pX10_versesOf_L5 vD0 nL5) y1 y2 y4 t0 t1 = some q → va_P D vwCl (wMD cC cI aD vD0 vD1 vD2 vD3 vD4 vD5 vD6 vD7 vD8 vD9 vD10 vD11 vD12 vD13 vD14 vD15 vD16 vD17 vD18 vD19 vD20 vD21 vD22) H → va_S A s.heap H locs → lv_has ls 5 [(0, .ref aD.1), (1, .int y1), (2, .int y2), (4, .int y4)] → W p l e ({ frames := 1, cells := 0, slots := 0, locals := 22 } : Room) s m ([.ref aD.1, .int i1, .int i2] : List Value).toArray below meth c H locs 0 0 (MQ below (va_Qi (fun (r : Int32) (_ : Unit) => r = q) (fun _ => kPost D (wMD cC cI aD vD0 vD1 vD2 vD3 vD4 vD5 vD6 vD7 vD8 vD9 vD10 vD11 vD12 vD13 vD14 vD15 vD16 vD17 vD18 vD19 vD20 vD21 vD22) A) A) ([.ref aD.1, .int i1, .int i2] : List Value).toArray s 0 0 A) (F0 m 32 ls [.int t1, .int t0]) := by
        skip
        intro y1 y2 y4 t0 t1 H locs ls h hP hS hl
        unfold pX10_versesOf_j32 at h
        refine lv_iadd hx hb dX10_versesOf_32 ?_
        refine lv_istore_n (lv' := [(3, .int (t0 + t1)), (0, .ref aD.1), (1, .int y1), (2, .int y2), (4, .int y4)]) hx hb dX10_versesOf_33 rfl hl (by decide) rfl (fun ls hl => ?_)
        refine lv_iinc (v := (y4 + (1 : Int32))) (lv' := [(4, .int (y4 + (1 : Int32))), (3, .int (t0 + t1)), (0, .ref aD.1), (1, .int y1), (2, .int y2)]) hx hb dX10_versesOf_34 hl (k := 4) rfl rfl (by decide) rfl (fun ls hl => ?_)
        refine lv_goto (tgt := 5) hx hb dX10_versesOf_37 (by decide) ?_
        exact ihL5 y1 y2 (t0 + t1) (y4 + (1 : Int32)) _ _ _ h hP hS (lv_sub hl [2, 3, 4, 1, 0] rfl)
      intro y1 y2 y3 y4 H locs ls h hP hS hl
      have h : pX10_versesOf_bL5 vD0 (pX10_versesOf_L5 vD0 nL5) y1 y2 y3 y4 = some q := h
      unfold pX10_versesOf_bL5 at h
      refine lv_iload hx hb dX10_versesOf_5 (lv_at hl 4 rfl) ?_
      refine lv_aload_n hx hb dX10_versesOf_7 rfl (lv_at hl 0 rfl) ?_
      refine lv_iload_n hx hb dX10_versesOf_8 rfl (lv_at hl 1 rfl) ?_
      obtain ⟨q2, h1, h⟩ := Option.bind_eq_some_iff.mp h
      refine kcir [0, 1, 2, 3, 4, 5, 6, 7, 8, 9, 10] (va_runV (As := [.int y1]) (rest := [.int y4]) ⟨hx, hb, hml, hown, hts⟩ (kX10_size l D cI cC cS aD vD0 vD1 vD2 vD3 vD4 vD5 vD6 vD7 vD8 vD9 vD10 vD11 vD12 vD13 vD14 vD15 vD16 vD17 vD18 vD19 vD20 vD21 vD22 y1 H.size h1) (cwV 1 hts gX10_versesOf_X10_size rfl rfl rfl (by decide +kernel) ⟨Nat.le_of_ble_eq_true rfl, Nat.le_of_ble_eq_true rfl⟩) (kpreV hK hN hP hD [0, 1, 2, 3, 4, 5, 6, 7, 8, 9, 10] rfl (by decide) 10 rfl rfl) rfl rfl hl.1 rfl (lv_room (Nat.le_of_ble_eq_true rfl)) dX10_versesOf_9 ⟨Nat.le_refl _, Nat.le_refl _⟩) hP hD hS hA rfl (fun H locs hP hS => ?_)
      refine lv_icmp_ge (tgt := 40) hx hb dX10_versesOf_12 (by decide) (fun g => ?_) (fun g => ?_)
      · rw [if_pos g] at h
        refine lv_iload_n hx hb dX10_versesOf_40 rfl (lv_at hl 3 rfl) ?_
        obtain rfl := Option.some.inj h
        exact W.iret (v := y3) hx hb hr (fun t ht hW => ⟨⟨_, (), rfl, rfl, by rw [ht]; exact hP, hD⟩, hS.F ht⟩) hS.2.2 dX10_versesOf_41
      · rw [if_neg g] at h
        refine lv_iload_n hx hb dX10_versesOf_15 rfl (lv_at hl 3 rfl) ?_
        refine lv_aload_n hx hb dX10_versesOf_16 rfl (lv_at hl 0 rfl) ?_
        refine lv_iload_n hx hb dX10_versesOf_17 rfl (lv_at hl 1 rfl) ?_
        refine lv_iload hx hb dX10_versesOf_18 (lv_at hl 4 rfl) ?_
        obtain ⟨q4, h3, h⟩ := Option.bind_eq_some_iff.mp h
        refine kcir [0, 1, 2, 3, 4, 5, 6, 7, 8, 9, 10] (va_runV (As := [.int y1, .int y4]) (rest := [.int y3]) ⟨hx, hb, hml, hown, hts⟩ (kX10_chapterOf l D cI cC cS aD vD0 vD1 vD2 vD3 vD4 vD5 vD6 vD7 vD8 vD9 vD10 vD11 vD12 vD13 vD14 vD15 vD16 vD17 vD18 vD19 vD20 vD21 vD22 y1 y4 H.size h3) (cwV 2 hts gX10_versesOf_X10_chapterOf rfl rfl rfl (by decide +kernel) ⟨Nat.le_of_ble_eq_true rfl, Nat.le_of_ble_eq_true rfl⟩) (kpreV hK hN hP hD [0, 1, 2, 3, 4, 5, 6, 7, 8, 9, 10] rfl (by decide) 10 rfl rfl) rfl rfl hl.1 rfl (lv_room (Nat.le_of_ble_eq_true rfl)) dX10_versesOf_20 ⟨Nat.le_refl _, Nat.le_refl _⟩) hP hD hS hA rfl (fun H locs hP hS => ?_)
        refine lv_iload_n hx hb dX10_versesOf_23 rfl (lv_at hl 2 rfl) ?_
        refine lv_icmp_ne (tgt := 31) hx hb dX10_versesOf_24 (by decide) (fun g => ?_) (fun g => ?_)
        · rw [if_neg g] at h
          refine lv_iconst (v := (0 : Int32)) hx hb dX10_versesOf_31 (by decide) ?_
          exact j32 y1 y2 y4 y3 (0 : Int32) _ _ _ h hP hS (lv_sub hl [0, 1, 2, 4] rfl)
        · rw [if_pos g] at h
          refine lv_iconst (v := (1 : Int32)) hx hb dX10_versesOf_27 (by decide) ?_
          refine lv_goto (tgt := 32) hx hb dX10_versesOf_28 (by decide) ?_
          exact j32 y1 y2 y4 y3 (1 : Int32) _ _ _ h hP hS (lv_sub hl [0, 1, 2, 4] rfl)
  unfold pX10_versesOf at h
  refine lv_iconst (v := (0 : Int32)) hx hb dX10_versesOf_0 (by decide) ?_
  refine lv_istore_n (lv' := [(3, .int (0 : Int32)), (0, .ref aD.1), (1, .int i1), (2, .int i2)]) hx hb dX10_versesOf_1 rfl hl (by decide) rfl (fun ls hl => ?_)
  refine lv_iconst (v := (0 : Int32)) hx hb dX10_versesOf_2 (by decide) ?_
  refine lv_istore (lv' := [(4, .int (0 : Int32)), (3, .int (0 : Int32)), (0, .ref aD.1), (1, .int i1), (2, .int i2)]) hx hb dX10_versesOf_3 hl (by decide) rfl (fun ls hl => ?_)
  exact L5 4000 i1 i2 (0 : Int32) (0 : Int32) _ _ _ h hP hS (lv_sub hl [2, 3, 4, 1, 0] rfl)
set_option maxHeartbeats 8000000 in
set_option maxRecDepth 100000 in
theorem kX10_beside (l : Launch) (D : va_G) (cI cC cS : ClassId) (aD : Nat × Nat × Nat × Nat × Nat × Nat × Nat × Nat × Nat × Nat × Nat) (vD0 : (Nat → Int32)) (vD1 : (Nat → Int32)) (vD2 : Int32) (vD3 : Int32) (vD4 : (Nat → Int32)) (vD5 : Int32) (vD6 : Int32) (vD7 : Int32) (vD8 : Int32) (vD9 : Int32) (vD10 : Int32) (vD11 : (Nat → Int32)) (vD12 : (Nat → Int32)) (vD13 : Int32) (vD14 : Int32) (vD15 : (Nat → Int32)) (vD16 : Int32) (vD17 : Int32) (vD18 : Int32) (vD19 : (Nat → Int32)) (vD20 : (Nat → Int32)) (vD21 : (Nat → Int32)) (vD22 : (Nat → Int32)) (i1 : Int32) (i2 : Int32) (i3 : Int32) (sz : Nat) {q : Int32} (h : pX10_beside vD0 i1 i2 i3 = some q) : kMi l yX10_beside wsX10_beside ({ frames := 3, cells := 0, slots := 0, locals := 64 } : Room) D (kTy cI cC cS) [.ref aD.1, .int i1, .int i2, .int i3] (wMD cC cI aD vD0 vD1 vD2 vD3 vD4 vD5 vD6 vD7 vD8 vD9 vD10 vD11 vD12 vD13 vD14 vD15 vD16 vD17 vD18 vD19 vD20 vD21 vD22) sz q (wMD cC cI aD vD0 vD1 vD2 vD3 vD4 vD5 vD6 vD7 vD8 vD9 vD10 vD11 vD12 vD13 vD14 vD15 vD16 vD17 vD18 vD19 vD20 vD21 vD22) := by
  refine Met.ofW (cc := cX10_beside) (maxL := 6) (ret := (some .int)) (by decide) rfl ?_
  intro p e s m args below meth c s₁ B hml hv
  obtain ⟨rfl, hsz, hP, hK, hD0, hN⟩ := hv
  have hx := B.exec
  have hb := B.bytes
  have hr := B.returns
  have hts := atoms_spec (ws := wsX10_beside) B.pre
  have hown : s.vm.findClass RX10 = some m.cls := findClass_of_methodNamed B.named
  have hlocks := B.notSynchronized
  subst hsz
  have hD := hD0.self (sz := s.heap.size)
  generalize hAe : va_A (wMD cC cI aD vD0 vD1 vD2 vD3 vD4 vD5 vD6 vD7 vD8 vD9 vD10 vD11 vD12 vD13 vD14 vD15 vD16 vD17 vD18 vD19 vD20 vD21 vD22) s.heap.size = A at hD ⊢
  have hA : ∀ q : Nat, s.heap.size ≤ q → A q := fun q h => by rw [← hAe]; exact Or.inr h
  have hS : va_S A s.heap s.heap [] := va_S.rf
  have hl := lv_entry ([.ref aD.1, .int i1, .int i2, .int i3]) (n := 6) (Nat.le_of_ble_eq_true rfl)
  rw [lg_entry_eq]
  generalize (lg_sl ([.ref aD.1, .int i1, .int i2, .int i3]) ++ List.replicate (6 - (lg_sl ([.ref aD.1, .int i1, .int i2, .int i3])).length) Slot.unset).toArray = ls at hl ⊢
  have hl : lv_has ls 6 [(0, .ref aD.1), (1, .int i1), (2, .int i2), (3, .int i3)] := hl
  unfold pX10_beside at h
  refine lv_aload_n hx hb dX10_beside_0 rfl (lv_at hl 0 rfl) ?_
  refine lv_iload_n hx hb dX10_beside_1 rfl (lv_at hl 1 rfl) ?_
  refine lv_iload_n hx hb dX10_beside_2 rfl (lv_at hl 2 rfl) ?_
  obtain ⟨q2, h1, h⟩ := Option.bind_eq_some_iff.mp h
  refine kcir [0, 1, 2, 3, 4, 5, 6, 7, 8, 9, 10] (va_runV (As := [.int i1, .int i2]) (rest := []) ⟨hx, hb, hml, hown, hts⟩ (kX10_noVerse l D cI cC cS aD vD0 vD1 vD2 vD3 vD4 vD5 vD6 vD7 vD8 vD9 vD10 vD11 vD12 vD13 vD14 vD15 vD16 vD17 vD18 vD19 vD20 vD21 vD22 i1 i2 s.heap.size h1) (cwV 2 hts gX10_beside_X10_noVerse rfl rfl rfl (by decide +kernel) ⟨Nat.le_of_ble_eq_true rfl, Nat.le_of_ble_eq_true rfl⟩) (kpreV hK hN hP hD [0, 1, 2, 3, 4, 5, 6, 7, 8, 9, 10] rfl (by decide) 10 rfl rfl) rfl rfl hl.1 rfl (lv_room (Nat.le_of_ble_eq_true rfl)) dX10_beside_3 ⟨Nat.le_refl _, Nat.le_refl _⟩) hP hD hS hA rfl (fun H locs hP hS => ?_)
  refine lv_if_eq (tgt := 11) hx hb dX10_beside_6 (by decide) (fun g => ?_) (fun g => ?_)
  · rw [if_pos g] at h
    refine lv_iload_n hx hb dX10_beside_11 rfl (lv_at hl 3 rfl) ?_
    refine lv_iconst (v := (0 : Int32)) hx hb dX10_beside_12 (by decide) ?_
    refine lv_iconst (v := (2 : Int32)) hx hb dX10_beside_13 (by decide) ?_
    obtain ⟨q4, h3, h⟩ := Option.bind_eq_some_iff.mp h
    refine kcir [] (va_runS (As := [.int i3, .int (0 : Int32), .int (2 : Int32)]) (rest := []) ⟨hx, hb, hml, hown, hts⟩ (kX10_in l D cI cC cS i3 (0 : Int32) (2 : Int32) H.size h3) (cwS 3 hts gX10_beside_X10_in rfl rfl rfl (by decide +kernel) ⟨Nat.le_of_ble_eq_true rfl, Nat.le_of_ble_eq_true rfl⟩) (kpre hK hN hP hD [] rfl (by decide)) rfl rfl hl.1 rfl (lv_room (Nat.le_of_ble_eq_true rfl)) dX10_beside_14 ⟨Nat.le_refl _, Nat.le_refl _⟩) hP hD hS hA rfl (fun H locs hP hS => ?_)
    refine lv_if_ne (tgt := 23) hx hb dX10_beside_17 (by decide) (fun g => ?_) (fun g => ?_)
    · rw [if_neg g] at h
      refine lv_aload_n hx hb dX10_beside_23 rfl (lv_at hl 0 rfl) ?_
      refine lv_iload_n hx hb dX10_beside_24 rfl (lv_at hl 1 rfl) ?_
      refine lv_iload_n hx hb dX10_beside_25 rfl (lv_at hl 2 rfl) ?_
      obtain ⟨q6, h5, h⟩ := Option.bind_eq_some_iff.mp h
      refine kcir [0, 1, 2, 3, 4, 5, 6, 7, 8, 9, 10] (va_runV (As := [.int i1, .int i2]) (rest := []) ⟨hx, hb, hml, hown, hts⟩ (kX10_groupOf l D cI cC cS aD vD0 vD1 vD2 vD3 vD4 vD5 vD6 vD7 vD8 vD9 vD10 vD11 vD12 vD13 vD14 vD15 vD16 vD17 vD18 vD19 vD20 vD21 vD22 i1 i2 H.size h5) (cwV 2 hts gX10_beside_X10_groupOf rfl rfl rfl (by decide +kernel) ⟨Nat.le_of_ble_eq_true rfl, Nat.le_of_ble_eq_true rfl⟩) (kpreV hK hN hP hD [0, 1, 2, 3, 4, 5, 6, 7, 8, 9, 10] rfl (by decide) 10 rfl rfl) rfl rfl hl.1 rfl (lv_room (Nat.le_of_ble_eq_true rfl)) dX10_beside_26 ⟨Nat.le_refl _, Nat.le_refl _⟩) hP hD hS hA rfl (fun H locs hP hS => ?_)
      refine lv_istore (lv' := [(4, .int q6), (0, .ref aD.1), (1, .int i1), (2, .int i2), (3, .int i3)]) hx hb dX10_beside_29 hl (by decide) rfl (fun ls hl => ?_)
      refine lv_aload_n hx hb dX10_beside_31 rfl (lv_at hl 1 rfl) ?_
      refine lv_iload hx hb dX10_beside_32 (lv_at hl 0 rfl) ?_
      refine lv_iconst (v := (1 : Int32)) hx hb dX10_beside_34 (by decide) ?_
      refine lv_iload_n hx hb dX10_beside_35 rfl (lv_at hl 2 rfl) ?_
      refine lv_isub hx hb dX10_beside_36 ?_
      obtain ⟨q8, h7, h⟩ := Option.bind_eq_some_iff.mp h
      refine kcir [0, 1, 2, 3, 4, 5, 6, 7, 8, 9, 10] (va_runV (As := [.int q6, .int ((1 : Int32) - i1)]) (rest := []) ⟨hx, hb, hml, hown, hts⟩ (kX10_has l D cI cC cS aD vD0 vD1 vD2 vD3 vD4 vD5 vD6 vD7 vD8 vD9 vD10 vD11 vD12 vD13 vD14 vD15 vD16 vD17 vD18 vD19 vD20 vD21 vD22 q6 ((1 : Int32) - i1) H.size h7) (cwV 2 hts gX10_beside_X10_has rfl rfl rfl (by decide +kernel) ⟨Nat.le_of_ble_eq_true rfl, Nat.le_of_ble_eq_true rfl⟩) (kpreV hK hN hP hD [0, 1, 2, 3, 4, 5, 6, 7, 8, 9, 10] rfl (by decide) 10 rfl rfl) rfl rfl hl.1 rfl (lv_room (Nat.le_of_ble_eq_true rfl)) dX10_beside_37 ⟨Nat.le_refl _, Nat.le_refl _⟩) hP hD hS hA rfl (fun H locs hP hS => ?_)
      refine lv_istore (lv' := [(5, .int q8), (4, .int q6), (0, .ref aD.1), (1, .int i1), (2, .int i2), (3, .int i3)]) hx hb dX10_beside_40 hl (by decide) rfl (fun ls hl => ?_)
      refine lv_iload_n hx hb dX10_beside_42 rfl (lv_at hl 5 rfl) ?_
      refine lv_if_ne (tgt := 51) hx hb dX10_beside_43 (by decide) (fun g => ?_) (fun g => ?_)
      · rw [if_neg g] at h
        refine lv_iload hx hb dX10_beside_51 (lv_at hl 0 rfl) ?_
        refine lv_if_ne (tgt := 61) hx hb dX10_beside_53 (by decide) (fun g => ?_) (fun g => ?_)
        · rw [if_neg g] at h
          refine lv_aload_n hx hb dX10_beside_61 rfl (lv_at hl 2 rfl) ?_
          refine lv_iload hx hb dX10_beside_62 (lv_at hl 1 rfl) ?_
          refine lv_iconst (v := (1 : Int32)) hx hb dX10_beside_64 (by decide) ?_
          refine lv_iload_n hx hb dX10_beside_65 rfl (lv_at hl 3 rfl) ?_
          refine lv_isub hx hb dX10_beside_66 ?_
          obtain ⟨q10, h9, h⟩ := Option.bind_eq_some_iff.mp h
          refine kcir [0, 1, 2, 3, 4, 5, 6, 7, 8, 9, 10] (va_runV (As := [.int q6, .int ((1 : Int32) - i1)]) (rest := []) ⟨hx, hb, hml, hown, hts⟩ (kX10_firstIn l D cI cC cS aD vD0 vD1 vD2 vD3 vD4 vD5 vD6 vD7 vD8 vD9 vD10 vD11 vD12 vD13 vD14 vD15 vD16 vD17 vD18 vD19 vD20 vD21 vD22 q6 ((1 : Int32) - i1) H.size h9) (cwV 2 hts gX10_beside_X10_firstIn rfl rfl rfl (by decide +kernel) ⟨Nat.le_of_ble_eq_true rfl, Nat.le_of_ble_eq_true rfl⟩) (kpreV hK hN hP hD [0, 1, 2, 3, 4, 5, 6, 7, 8, 9, 10] rfl (by decide) 10 rfl rfl) rfl rfl hl.1 rfl (lv_room (Nat.le_of_ble_eq_true rfl)) dX10_beside_67 ⟨Nat.le_refl _, Nat.le_refl _⟩) hP hD hS hA rfl (fun H locs hP hS => ?_)
          refine lv_iload_n hx hb dX10_beside_70 rfl (lv_at hl 5 rfl) ?_
          refine lv_iconst (v := (1 : Int32)) hx hb dX10_beside_71 (by decide) ?_
          refine lv_icmp_ne (tgt := 79) hx hb dX10_beside_72 (by decide) (fun g => ?_) (fun g => ?_)
          · rw [if_neg g] at h
            refine lv_iload hx hb dX10_beside_79 (lv_at hl 0 rfl) ?_
            refine lv_iconst (v := (1 : Int32)) hx hb dX10_beside_81 (by decide) ?_
            refine lv_isub hx hb dX10_beside_82 ?_
            refine lv_iadd hx hb dX10_beside_83 ?_
            obtain rfl := Option.some.inj h
            exact W.iret (v := (q10 + (q8 - (1 : Int32)))) hx hb hr (fun t ht hW => ⟨⟨_, (), rfl, rfl, by rw [ht]; exact hP, hD⟩, hS.F ht⟩) hS.2.2 dX10_beside_84
          · rw [if_pos g] at h
            refine lv_iconst (v := (0 : Int32)) hx hb dX10_beside_75 (by decide) ?_
            refine lv_goto (tgt := 83) hx hb dX10_beside_76 (by decide) ?_
            refine lv_iadd hx hb dX10_beside_83 ?_
            obtain rfl := Option.some.inj h
            exact W.iret (v := (q10 + (0 : Int32))) hx hb hr (fun t ht hW => ⟨⟨_, (), rfl, rfl, by rw [ht]; exact hP, hD⟩, hS.F ht⟩) hS.2.2 dX10_beside_84
        · rw [if_pos g] at h
          refine lv_bipush (v := (-5 : Int32)) hx hb dX10_beside_56 (by decide) ?_
          refine lv_goto (tgt := 84) hx hb dX10_beside_58 (by decide) ?_
          obtain rfl := Option.some.inj h
          exact W.iret (v := (-5 : Int32)) hx hb hr (fun t ht hW => ⟨⟨_, (), rfl, rfl, by rw [ht]; exact hP, hD⟩, hS.F ht⟩) hS.2.2 dX10_beside_84
      · rw [if_pos g] at h
        refine lv_iload hx hb dX10_beside_46 (lv_at hl 1 rfl) ?_
        refine lv_goto (tgt := 84) hx hb dX10_beside_48 (by decide) ?_
        obtain rfl := Option.some.inj h
        exact W.iret (v := q6) hx hb hr (fun t ht hW => ⟨⟨_, (), rfl, rfl, by rw [ht]; exact hP, hD⟩, hS.F ht⟩) hS.2.2 dX10_beside_84
    · rw [if_pos g] at h
      refine lv_bipush (v := (-2 : Int32)) hx hb dX10_beside_20 (by decide) ?_
      obtain rfl := Option.some.inj h
      exact W.iret (v := (-2 : Int32)) hx hb hr (fun t ht hW => ⟨⟨_, (), rfl, rfl, by rw [ht]; exact hP, hD⟩, hS.F ht⟩) hS.2.2 dX10_beside_22
  · rw [if_neg g] at h
    refine lv_iconst (v := (-1 : Int32)) hx hb dX10_beside_9 (by decide) ?_
    obtain rfl := Option.some.inj h
    exact W.iret (v := (-1 : Int32)) hx hb hr (fun t ht hW => ⟨⟨_, (), rfl, rfl, by rw [ht]; exact hP, hD⟩, hS.F ht⟩) hS.2.2 dX10_beside_10
set_option maxHeartbeats 8000000 in
set_option maxRecDepth 100000 in
theorem kX10_width (l : Launch) (D : va_G) (cI cC cS : ClassId) (aD : Nat × Nat × Nat × Nat × Nat × Nat × Nat × Nat × Nat × Nat × Nat) (vD0 : (Nat → Int32)) (vD1 : (Nat → Int32)) (vD2 : Int32) (vD3 : Int32) (vD4 : (Nat → Int32)) (vD5 : Int32) (vD6 : Int32) (vD7 : Int32) (vD8 : Int32) (vD9 : Int32) (vD10 : Int32) (vD11 : (Nat → Int32)) (vD12 : (Nat → Int32)) (vD13 : Int32) (vD14 : Int32) (vD15 : (Nat → Int32)) (vD16 : Int32) (vD17 : Int32) (vD18 : Int32) (vD19 : (Nat → Int32)) (vD20 : (Nat → Int32)) (vD21 : (Nat → Int32)) (vD22 : (Nat → Int32)) (i1 : Int32) (sz : Nat) {q : Int32} (h : pX10_width vD15 i1 = some q) : kMi l yX10_width wsX10_width ({ frames := 0, cells := 0, slots := 0, locals := 0 } : Room) D (kTy cI cC cS) [.ref aD.1, .int i1] (wMD cC cI aD vD0 vD1 vD2 vD3 vD4 vD5 vD6 vD7 vD8 vD9 vD10 vD11 vD12 vD13 vD14 vD15 vD16 vD17 vD18 vD19 vD20 vD21 vD22) sz q (wMD cC cI aD vD0 vD1 vD2 vD3 vD4 vD5 vD6 vD7 vD8 vD9 vD10 vD11 vD12 vD13 vD14 vD15 vD16 vD17 vD18 vD19 vD20 vD21 vD22) := by
  refine Met.ofW (cc := cX10_width) (maxL := 2) (ret := (some .int)) (by decide) rfl ?_
  intro p e s m args below meth c s₁ B hml hv
  obtain ⟨rfl, hsz, hP, hK, hD0, hN⟩ := hv
  have hx := B.exec
  have hb := B.bytes
  have hr := B.returns
  have hts := atoms_spec (ws := wsX10_width) B.pre
  have hown : s.vm.findClass RX10 = some m.cls := findClass_of_methodNamed B.named
  have hlocks := B.notSynchronized
  subst hsz
  have hD := hD0.self (sz := s.heap.size)
  generalize hAe : va_A (wMD cC cI aD vD0 vD1 vD2 vD3 vD4 vD5 vD6 vD7 vD8 vD9 vD10 vD11 vD12 vD13 vD14 vD15 vD16 vD17 vD18 vD19 vD20 vD21 vD22) s.heap.size = A at hD ⊢
  have hA : ∀ q : Nat, s.heap.size ≤ q → A q := fun q h => by rw [← hAe]; exact Or.inr h
  have hS : va_S A s.heap s.heap [] := va_S.rf
  have huX10 : ∀ w ∈ u_ws RX10 TX10 23, w ∈ wsX10_width := by decide +kernel
  have hl := lv_entry ([.ref aD.1, .int i1]) (n := 2) (Nat.le_of_ble_eq_true rfl)
  rw [lg_entry_eq]
  generalize (lg_sl ([.ref aD.1, .int i1]) ++ List.replicate (2 - (lg_sl ([.ref aD.1, .int i1])).length) Slot.unset).toArray = ls at hl ⊢
  have hl : lv_has ls 2 [(0, .ref aD.1), (1, .int i1)] := hl
  unfold pX10_width at h
  refine lv_aload_n hx hb dX10_width_0 rfl (lv_at hl 0 rfl) ?_
  refine va_get (D := D) (ci := 10) (v := .ref aD.2.2.2.2.2.2.1) (C := RX10) (T := TX10) (N := 23) hx hb hts huX10 hown hK hP 0 rfl rfl 15 (by decide) (hts (.fieldLink RX10 26 "VerseColumnsModel" "widthOf" "[I") (by decide +kernel)) (fun _ h9 => h9) rfl dX10_width_1 ?_
  refine lv_iload_n hx hb dX10_width_4 rfl (lv_at hl 1 rfl) ?_
  obtain ⟨g, h⟩ := kif h
  refine va_iald hx hb hK hP 6 0 rfl rfl (kin g) dX10_width_5 ?_
  refine lv_if_ne (tgt := 14) hx hb dX10_width_6 (by decide) (fun g => ?_) (fun g => ?_)
  · rw [if_neg g] at h
    refine lv_aload_n hx hb dX10_width_14 rfl (lv_at hl 0 rfl) ?_
    refine va_get (D := D) (ci := 10) (v := .ref aD.2.2.2.2.2.2.1) (C := RX10) (T := TX10) (N := 23) hx hb hts huX10 hown hK hP 0 rfl rfl 15 (by decide) (hts (.fieldLink RX10 26 "VerseColumnsModel" "widthOf" "[I") (by decide +kernel)) (fun _ h9 => h9) rfl dX10_width_15 ?_
    refine lv_iload_n hx hb dX10_width_18 rfl (lv_at hl 1 rfl) ?_
    obtain ⟨g, h⟩ := kif h
    refine va_iald hx hb hK hP 6 0 rfl rfl (kin g) dX10_width_19 ?_
    obtain rfl := Option.some.inj h
    exact W.iret (v := (vD15 i1.toNatClampNeg)) hx hb hr (fun t ht hW => ⟨⟨_, (), rfl, rfl, by rw [ht]; exact hP, hD⟩, hS.F ht⟩) hS.2.2 dX10_width_20
  · rw [if_pos g] at h
    refine lv_bipush (v := (40 : Int32)) hx hb dX10_width_9 (by decide) ?_
    refine lv_goto (tgt := 20) hx hb dX10_width_11 (by decide) ?_
    obtain rfl := Option.some.inj h
    exact W.iret (v := (40 : Int32)) hx hb hr (fun t ht hW => ⟨⟨_, (), rfl, rfl, by rw [ht]; exact hP, hD⟩, hS.F ht⟩) hS.2.2 dX10_width_20
set_option maxHeartbeats 8000000 in
set_option maxRecDepth 100000 in
theorem kX10_setWidth (l : Launch) (D : va_G) (cI cC cS : ClassId) (aD : Nat × Nat × Nat × Nat × Nat × Nat × Nat × Nat × Nat × Nat × Nat) (vD0 : (Nat → Int32)) (vD1 : (Nat → Int32)) (vD2 : Int32) (vD3 : Int32) (vD4 : (Nat → Int32)) (vD5 : Int32) (vD6 : Int32) (vD7 : Int32) (vD8 : Int32) (vD9 : Int32) (vD10 : Int32) (vD11 : (Nat → Int32)) (vD12 : (Nat → Int32)) (vD13 : Int32) (vD14 : Int32) (vD15 : (Nat → Int32)) (vD16 : Int32) (vD17 : Int32) (vD18 : Int32) (vD19 : (Nat → Int32)) (vD20 : (Nat → Int32)) (vD21 : (Nat → Int32)) (vD22 : (Nat → Int32)) (i1 : Int32) (i2 : Int32) (sz : Nat) {q : Int32 × (Nat → Int32)} (h : pX10_setWidth vD15 i1 i2 = some q) : kMi l yX10_setWidth wsX10_setWidth ({ frames := 2, cells := 0, slots := 0, locals := 42 } : Room) D (kTy cI cC cS) [.ref aD.1, .int i1, .int i2] (wMD cC cI aD vD0 vD1 vD2 vD3 vD4 vD5 vD6 vD7 vD8 vD9 vD10 vD11 vD12 vD13 vD14 vD15 vD16 vD17 vD18 vD19 vD20 vD21 vD22) sz q.1 (wMD cC cI aD vD0 vD1 vD2 vD3 vD4 vD5 vD6 vD7 vD8 vD9 vD10 vD11 vD12 vD13 vD14 q.2 vD16 vD17 vD18 vD19 vD20 vD21 vD22) := by
  refine Met.ofW (cc := cX10_setWidth) (maxL := 4) (ret := (some .int)) (by decide) rfl ?_
  intro p e s m args below meth c s₁ B hml hv
  obtain ⟨rfl, hsz, hP, hK, hD0, hN⟩ := hv
  have hx := B.exec
  have hb := B.bytes
  have hr := B.returns
  have hts := atoms_spec (ws := wsX10_setWidth) B.pre
  have hown : s.vm.findClass RX10 = some m.cls := findClass_of_methodNamed B.named
  have hlocks := B.notSynchronized
  subst hsz
  have hD := hD0.self (sz := s.heap.size)
  generalize hAe : va_A (wMD cC cI aD vD0 vD1 vD2 vD3 vD4 vD5 vD6 vD7 vD8 vD9 vD10 vD11 vD12 vD13 vD14 vD15 vD16 vD17 vD18 vD19 vD20 vD21 vD22) s.heap.size = A at hD ⊢
  have hA : ∀ q : Nat, s.heap.size ≤ q → A q := fun q h => by rw [← hAe]; exact Or.inr h
  have hS : va_S A s.heap s.heap [] := va_S.rf
  have huX10 : ∀ w ∈ u_ws RX10 TX10 23, w ∈ wsX10_setWidth := by decide +kernel
  have hl := lv_entry ([.ref aD.1, .int i1, .int i2]) (n := 4) (Nat.le_of_ble_eq_true rfl)
  rw [lg_entry_eq]
  generalize (lg_sl ([.ref aD.1, .int i1, .int i2]) ++ List.replicate (4 - (lg_sl ([.ref aD.1, .int i1, .int i2])).length) Slot.unset).toArray = ls at hl ⊢
  have hl : lv_has ls 4 [(0, .ref aD.1), (1, .int i1), (2, .int i2)] := hl
  unfold pX10_setWidth at h
  refine lv_iload_n hx hb dX10_setWidth_0 rfl (lv_at hl 1 rfl) ?_
  obtain ⟨q2, h1, h⟩ := Option.bind_eq_some_iff.mp h
  refine kcir [] (va_runS (As := [.int i1]) (rest := []) ⟨hx, hb, hml, hown, hts⟩ (kX10_noBook l D cI cC cS i1 s.heap.size h1) (cwS 1 hts gX10_setWidth_X10_noBook rfl rfl rfl (by decide +kernel) ⟨Nat.le_of_ble_eq_true rfl, Nat.le_of_ble_eq_true rfl⟩) (kpre hK hN hP hD [] rfl (by decide)) rfl rfl hl.1 rfl (lv_room (Nat.le_of_ble_eq_true rfl)) dX10_setWidth_1 ⟨Nat.le_refl _, Nat.le_refl _⟩) hP hD hS hA rfl (fun H locs hP hS => ?_)
  refine lv_if_eq (tgt := 9) hx hb dX10_setWidth_4 (by decide) (fun g => ?_) (fun g => ?_)
  · rw [if_pos g] at h
    refine lv_iload_n hx hb dX10_setWidth_9 rfl (lv_at hl 2 rfl) ?_
    refine lv_bipush (v := (10 : Int32)) hx hb dX10_setWidth_10 (by decide) ?_
    refine lv_sipush (v := (200 : Int32)) hx hb dX10_setWidth_12 (by decide) ?_
    obtain ⟨q4, h3, h⟩ := Option.bind_eq_some_iff.mp h
    refine kcir [] (va_runS (As := [.int i2, .int (10 : Int32), .int (200 : Int32)]) (rest := []) ⟨hx, hb, hml, hown, hts⟩ (kX10_in l D cI cC cS i2 (10 : Int32) (200 : Int32) H.size h3) (cwS 3 hts gX10_setWidth_X10_in rfl rfl rfl (by decide +kernel) ⟨Nat.le_of_ble_eq_true rfl, Nat.le_of_ble_eq_true rfl⟩) (kpre hK hN hP hD [] rfl (by decide)) rfl rfl hl.1 rfl (lv_room (Nat.le_of_ble_eq_true rfl)) dX10_setWidth_15 ⟨Nat.le_refl _, Nat.le_refl _⟩) hP hD hS hA rfl (fun H locs hP hS => ?_)
    refine lv_if_ne (tgt := 24) hx hb dX10_setWidth_18 (by decide) (fun g => ?_) (fun g => ?_)
    · rw [if_neg g] at h
      refine lv_aload_n hx hb dX10_setWidth_24 rfl (lv_at hl 0 rfl) ?_
      refine lv_iload_n hx hb dX10_setWidth_25 rfl (lv_at hl 1 rfl) ?_
      obtain ⟨q6, h5, h⟩ := Option.bind_eq_some_iff.mp h
      refine kcir [0, 1, 2, 3, 4, 5, 6, 7, 8, 9, 10] (va_runV (As := [.int i1]) (rest := []) ⟨hx, hb, hml, hown, hts⟩ (kX10_width l D cI cC cS aD vD0 vD1 vD2 vD3 vD4 vD5 vD6 vD7 vD8 vD9 vD10 vD11 vD12 vD13 vD14 vD15 vD16 vD17 vD18 vD19 vD20 vD21 vD22 i1 H.size h5) (cwV 1 hts gX10_setWidth_X10_width rfl rfl rfl (by decide +kernel) ⟨Nat.le_of_ble_eq_true rfl, Nat.le_of_ble_eq_true rfl⟩) (kpreV hK hN hP hD [0, 1, 2, 3, 4, 5, 6, 7, 8, 9, 10] rfl (by decide) 10 rfl rfl) rfl rfl hl.1 rfl (lv_room (Nat.le_of_ble_eq_true rfl)) dX10_setWidth_26 ⟨Nat.le_refl _, Nat.le_refl _⟩) hP hD hS hA rfl (fun H locs hP hS => ?_)
      refine lv_istore_n (lv' := [(3, .int q6), (0, .ref aD.1), (1, .int i1), (2, .int i2)]) hx hb dX10_setWidth_29 rfl hl (by decide) rfl (fun ls hl => ?_)
      refine lv_aload_n hx hb dX10_setWidth_30 rfl (lv_at hl 1 rfl) ?_
      refine va_get (D := D) (ci := 10) (v := .ref aD.2.2.2.2.2.2.1) (C := RX10) (T := TX10) (N := 23) hx hb hts huX10 hown hK hP 0 rfl rfl 15 (by decide) (hts (.fieldLink RX10 26 "VerseColumnsModel" "widthOf" "[I") (by decide +kernel)) (fun _ h9 => h9) rfl dX10_setWidth_31 ?_
      refine lv_iload_n hx hb dX10_setWidth_34 rfl (lv_at hl 2 rfl) ?_
      refine lv_iload_n hx hb dX10_setWidth_35 rfl (lv_at hl 3 rfl) ?_
      obtain ⟨g, h⟩ := kif h
      refine va_iast hx hb hK hP hD hS 6 0 rfl rfl (kin g) dX10_setWidth_36 (fun H locs hP hD hS => ?_)
      have hP : va_P D vwCl (wMD cC cI aD vD0 vD1 vD2 vD3 vD4 vD5 vD6 vD7 vD8 vD9 vD10 vD11 vD12 vD13 vD14 (upd vD15 i1.toNatClampNeg i2) vD16 vD17 vD18 vD19 vD20 vD21 vD22) H := hP
      have hD : va_D A (wMD cC cI aD vD0 vD1 vD2 vD3 vD4 vD5 vD6 vD7 vD8 vD9 vD10 vD11 vD12 vD13 vD14 (upd vD15 i1.toNatClampNeg i2) vD16 vD17 vD18 vD19 vD20 vD21 vD22) := hD
      refine lv_iload_n hx hb dX10_setWidth_37 rfl (lv_at hl 0 rfl) ?_
      obtain rfl := Option.some.inj h
      exact W.iret (v := q6) hx hb hr (fun t ht hW => ⟨⟨_, (), rfl, rfl, by rw [ht]; exact hP, hD⟩, hS.F ht⟩) hS.2.2 dX10_setWidth_38
    · rw [if_pos g] at h
      refine lv_bipush (v := (-2 : Int32)) hx hb dX10_setWidth_21 (by decide) ?_
      obtain rfl := Option.some.inj h
      exact W.iret (v := (-2 : Int32)) hx hb hr (fun t ht hW => ⟨⟨_, (), rfl, rfl, by rw [ht]; exact hP, hD⟩, hS.F ht⟩) hS.2.2 dX10_setWidth_23
  · rw [if_neg g] at h
    refine lv_iconst (v := (-1 : Int32)) hx hb dX10_setWidth_7 (by decide) ?_
    obtain rfl := Option.some.inj h
    exact W.iret (v := (-1 : Int32)) hx hb hr (fun t ht hW => ⟨⟨_, (), rfl, rfl, by rw [ht]; exact hP, hD⟩, hS.F ht⟩) hS.2.2 dX10_setWidth_8
