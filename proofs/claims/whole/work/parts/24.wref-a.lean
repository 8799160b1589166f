-- walks: ref (printed by wip/whole/gen)
set_option maxHeartbeats 8000000 in
set_option maxRecDepth 100000 in
theorem kX10_in (l : Launch) (D : va_G) (cI cC cS : ClassId) (i1 : Int32) (i2 : Int32) (i3 : Int32) (sz : Nat) {q : Int32} (h : pX10_in i1 i2 i3 = some q) : kMi l yX10_in wsX10_in ({ frames := 0, cells := 0, slots := 0, locals := 0 } : Room) D (kTy cI cC cS) [.int i1, .int i2, .int i3] ([] : va_W) sz q ([] : va_W) := by
  refine Met.ofW (cc := cX10_in) (maxL := 3) (ret := (some .boolean)) (by decide) rfl ?_
  intro p e s m args below meth c s₁ B hml hv
  obtain ⟨rfl, hsz, hP, hK, hD0, hN⟩ := hv
  have hx := B.exec
  have hb := B.bytes
  have hr := B.returns
  have hts := atoms_spec (ws := wsX10_in) B.pre
  have hown : s.vm.findClass RX10 = some m.cls := findClass_of_methodNamed B.named
  have hlocks := B.notSynchronized
  subst hsz
  have hD := hD0.self (sz := s.heap.size)
  generalize hAe : va_A ([] : va_W) s.heap.size = A at hD ⊢
  have hA : ∀ q : Nat, s.heap.size ≤ q → A q := fun q h => by rw [← hAe]; exact Or.inr h
  have hS : va_S A s.heap s.heap [] := va_S.rf
  have hl := lv_entry ([.int i1, .int i2, .int i3]) (n := 3) (Nat.le_of_ble_eq_true rfl)
  rw [lg_entry_eq]
  generalize (lg_sl ([.int i1, .int i2, .int i3]) ++ List.replicate (3 - (lg_sl ([.int i1, .int i2, .int i3])).length) Slot.unset).toArray = ls at hl ⊢
  have hl : lv_has ls 3 [(0, .int i1), (1, .int i2), (2, .int i3)] := hl
  unfold pX10_in at h
  refine lv_iload_n hx hb dX10_in_0 rfl (lv_at hl 0 rfl) ?_
  refine lv_iload_n hx hb dX10_in_1 rfl (lv_at hl 1 rfl) ?_
  refine lv_icmp_lt (tgt := 14) hx hb dX10_in_2 (by decide) (fun g => ?_) (fun g => ?_)
  · rw [if_pos g] at h
    refine lv_iconst (v := (0 : Int32)) hx hb dX10_in_14 (by decide) ?_
    obtain rfl := Option.some.inj h
    exact W.zret (v := (0 : Int32)) hx hb hr rfl (fun t ht hW => ⟨⟨_, (), rfl, rfl, by rw [ht]; exact hP, hD⟩, hS.F ht⟩) hS.2.2 dX10_in_15
  · rw [if_neg g] at h
    refine lv_iload_n hx hb dX10_in_5 rfl (lv_at hl 0 rfl) ?_
    refine lv_iload_n hx hb dX10_in_6 rfl (lv_at hl 2 rfl) ?_
    refine lv_icmp_gt (tgt := 14) hx hb dX10_in_7 (by decide) (fun g => ?_) (fun g => ?_)
    · rw [if_pos g] at h
      refine lv_iconst (v := (0 : Int32)) hx hb dX10_in_14 (by decide) ?_
      obtain rfl := Option.some.inj h
      exact W.zret (v := (0 : Int32)) hx hb hr rfl (fun t ht hW => ⟨⟨_, (), rfl, rfl, by rw [ht]; exact hP, hD⟩, hS.F ht⟩) hS.2.2 dX10_in_15
    · rw [if_neg g] at h
      refine lv_iconst (v := (1 : Int32)) hx hb dX10_in_10 (by decide) ?_
      refine lv_goto (tgt := 15) hx hb dX10_in_11 (by decide) ?_
      obtain rfl := Option.some.inj h
      exact W.zret (v := (1 : Int32)) hx hb hr rfl (fun t ht hW => ⟨⟨_, (), rfl, rfl, by rw [ht]; exact hP, hD⟩, hS.F ht⟩) hS.2.2 dX10_in_15
set_option maxHeartbeats 8000000 in
set_option maxRecDepth 100000 in
theorem kX10_noBook (l : Launch) (D : va_G) (cI cC cS : ClassId) (i1 : Int32) (sz : Nat) {q : Int32} (h : pX10_noBook i1 = some q) : kMi l yX10_noBook wsX10_noBook ({ frames := 1, cells := 0, slots := 0, locals := 22 } : Room) D (kTy cI cC cS) [.int i1] ([] : va_W) sz q ([] : va_W) := by
  refine Met.ofW (cc := cX10_noBook) (maxL := 1) (ret := (some .boolean)) (by decide) rfl ?_
  intro p e s m args below meth c s₁ B hml hv
  obtain ⟨rfl, hsz, hP, hK, hD0, hN⟩ := hv
  have hx := B.exec
  have hb := B.bytes
  have hr := B.returns
  have hts := atoms_spec (ws := wsX10_noBook) B.pre
  have hown : s.vm.findClass RX10 = some m.cls := findClass_of_methodNamed B.named
  have hlocks := B.notSynchronized
  subst hsz
  have hD := hD0.self (sz := s.heap.size)
  generalize hAe : va_A ([] : va_W) s.heap.size = A at hD ⊢
  have hA : ∀ q : Nat, s.heap.size ≤ q → A q := fun q h => by rw [← hAe]; exact Or.inr h
  have hS : va_S A s.heap s.heap [] := va_S.rf
  have hl := lv_entry ([.int i1]) (n := 1) (Nat.le_of_ble_eq_true rfl)
  rw [lg_entry_eq]
  generalize (lg_sl ([.int i1]) ++ List.replicate (1 - (lg_sl ([.int i1])).length) Slot.unset).toArray = ls at hl ⊢
  have hl : lv_has ls 1 [(0, .int i1)] := hl
  unfold pX10_noBook at h
  refine lv_iload_n hx hb dX10_noBook_0 rfl (lv_at hl 0 rfl) ?_
  refine lv_iconst (v := (0 : Int32)) hx hb dX10_noBook_1 (by decide) ?_
  refine lv_iconst (v := (1 : Int32)) hx hb dX10_noBook_2 (by decide) ?_
  obtain ⟨q2, h1, h⟩ := Option.bind_eq_some_iff.mp h
  refine kcir [] (va_runS (As := [.int i1, .int (0 : Int32), .int (1 : Int32)]) (rest := []) ⟨hx, hb, hml, hown, hts⟩ (kX10_in l D cI cC cS i1 (0 : Int32) (1 : Int32) s.heap.size h1) (cwS 3 hts gX10_noBook_X10_in rfl rfl rfl (by decide +kernel) ⟨Nat.le_of_ble_eq_true rfl, Nat.le_of_ble_eq_true rfl⟩) (kpre hK hN hP hD [] rfl (by decide)) rfl rfl hl.1 rfl (lv_room (Nat.le_of_ble_eq_true rfl)) dX10_noBook_3 ⟨Nat.le_refl _, Nat.le_refl _⟩) hP hD hS hA rfl (fun H locs hP hS => ?_)
  refine lv_if_ne (tgt := 13) hx hb dX10_noBook_6 (by decide) (fun g => ?_) (fun g => ?_)
  · rw [if_neg g] at h
    refine lv_iconst (v := (0 : Int32)) hx hb dX10_noBook_13 (by decide) ?_
    obtain rfl := Option.some.inj h
    exact W.zret (v := (0 : Int32)) hx hb hr rfl (fun t ht hW => ⟨⟨_, (), rfl, rfl, by rw [ht]; exact hP, hD⟩, hS.F ht⟩) hS.2.2 dX10_noBook_14
  · rw [if_pos g] at h
    refine lv_iconst (v := (1 : Int32)) hx hb dX10_noBook_9 (by decide) ?_
    refine lv_goto (tgt := 14) hx hb dX10_noBook_10 (by decide) ?_
    obtain rfl := Option.some.inj h
    exact W.zret (v := (1 : Int32)) hx hb hr rfl (fun t ht hW => ⟨⟨_, (), rfl, rfl, by rw [ht]; exact hP, hD⟩, hS.F ht⟩) hS.2.2 dX10_noBook_14
set_option maxHeartbeats 8000000 in
set_option maxRecDepth 100000 in
theorem kX10_size (l : Launch) (D : va_G) (cI cC cS : ClassId) (aD : Nat × Nat × Nat × Nat × Nat × Nat × Nat × Nat × Nat × Nat × Nat) (vD0 : (Nat → Int32)) (vD1 : (Nat → Int32)) (vD2 : Int32) (vD3 : Int32) (vD4 : (Nat → Int32)) (vD5 : Int32) (vD6 : Int32) (vD7 : Int32) (vD8 : Int32) (vD9 : Int32) (vD10 : Int32) (vD11 : (Nat → Int32)) (vD12 : (Nat → Int32)) (vD13 : Int32) (vD14 : Int32) (vD15 : (Nat → Int32)) (vD16 : Int32) (vD17 : Int32) (vD18 : Int32) (vD19 : (Nat → Int32)) (vD20 : (Nat → Int32)) (vD21 : (Nat → Int32)) (vD22 : (Nat → Int32)) (i1 : Int32) (sz : Nat) {q : Int32} (h : pX10_size vD0 i1 = some q) : kMi l yX10_size wsX10_size ({ frames := 0, cells := 0, slots := 0, locals := 0 } : Room) D (kTy cI cC cS) [.ref aD.1, .int i1] (wMD cC cI aD vD0 vD1 vD2 vD3 vD4 vD5 vD6 vD7 vD8 vD9 vD10 vD11 vD12 vD13 vD14 vD15 vD16 vD17 vD18 vD19 vD20 vD21 vD22) sz q (wMD cC cI aD vD0 vD1 vD2 vD3 vD4 vD5 vD6 vD7 vD8 vD9 vD10 vD11 vD12 vD13 vD14 vD15 vD16 vD17 vD18 vD19 vD20 vD21 vD22) := by
  refine Met.ofW (cc := cX10_size) (maxL := 2) (ret := (some .int)) (by decide) rfl ?_
  intro p e s m args below meth c s₁ B hml hv
  obtain ⟨rfl, hsz, hP, hK, hD0, hN⟩ := hv
  have hx := B.exec
  have hb := B.bytes
  have hr := B.returns
  have hts := atoms_spec (ws := wsX10_size) B.pre
  have hown : s.vm.findClass RX10 = some m.cls := findClass_of_methodNamed B.named
  have hlocks := B.notSynchronized
  subst hsz
  have hD := hD0.self (sz := s.heap.size)
  generalize hAe : va_A (wMD cC cI aD vD0 vD1 vD2 vD3 vD4 vD5 vD6 vD7 vD8 vD9 vD10 vD11 vD12 vD13 vD14 vD15 vD16 vD17 vD18 vD19 vD20 vD21 vD22) s.heap.size = A at hD ⊢
  have hA : ∀ q : Nat, s.heap.size ≤ q → A q := fun q h => by rw [← hAe]; exact Or.inr h
  have hS : va_S A s.heap s.heap [] := va_S.rf
  have huX10 : ∀ w ∈ u_ws RX10 TX10 23, w ∈ wsX10_size := by decide +kernel
  have hl := lv_entry ([.ref aD.1, .int i1]) (n := 2) (Nat.le_of_ble_eq_true rfl)
  rw [lg_entry_eq]
  generalize (lg_sl ([.ref aD.1, .int i1]) ++ List.replicate (2 - (lg_sl ([.ref aD.1, .int i1])).length) Slot.unset).toArray = ls at hl ⊢
  have hl : lv_has ls 2 [(0, .ref aD.1), (1, .int i1)] := hl
  unfold pX10_size at h
  refine lv_aload_n hx hb dX10_size_0 rfl (lv_at hl 0 rfl) ?_
  refine va_get (D := D) (ci := 10) (v := .ref aD.2.1) (C := RX10) (T := TX10) (N := 23) hx hb hts huX10 hown hK hP 0 rfl rfl 0 (by decide) (hts (.fieldLink RX10 7 "VerseColumnsModel" "row" "[I") (by decide +kernel)) (fun _ h9 => h9) rfl dX10_size_1 ?_
  refine lv_sipush (v := (360 : Int32)) hx hb dX10_size_4 (by decide) ?_
  refine lv_iload_n hx hb dX10_size_7 rfl (lv_at hl 1 rfl) ?_
  refine lv_iadd hx hb dX10_size_8 ?_
  obtain ⟨g, h⟩ := kif h
  refine va_iald hx hb hK hP 1 0 rfl rfl (kin g) dX10_size_9 ?_
  obtain rfl := Option.some.inj h
  exact W.iret (v := (vD0 ((360 : Int32) + i1).toNatClampNeg)) hx hb hr (fun t ht hW => ⟨⟨_, (), rfl, rfl, by rw [ht]; exact hP, hD⟩, hS.F ht⟩) hS.2.2 dX10_size_10
set_option maxHeartbeats 8000000 in
set_option maxRecDepth 100000 in
theorem kX10_noVerse (l : Launch) (D : va_G) (cI cC cS : ClassId) (aD : Nat × Nat × Nat × Nat × Nat × Nat × Nat × Nat × Nat × Nat × Nat) (vD0 : (Nat → Int32)) (vD1 : (Nat → Int32)) (vD2 : Int32) (vD3 : Int32) (vD4 : (Nat → Int32)) (vD5 : Int32) (vD6 : Int32) (vD7 : Int32) (vD8 : Int32) (vD9 : Int32) (vD10 : Int32) (vD11 : (Nat → Int32)) (vD12 : (Nat → Int32)) (vD13 : Int32) (vD14 : Int32) (vD15 : (Nat → Int32)) (vD16 : Int32) (vD17 : Int32) (vD18 : Int32) (vD19 : (Nat → Int32)) (vD20 : (Nat → Int32)) (vD21 : (Nat → Int32)) (vD22 : (Nat → Int32)) (i1 : Int32) (i2 : Int32) (sz : Nat) {q : Int32} (h : pX10_noVerse vD0 i1 i2 = some q) : kMi l yX10_noVerse wsX10_noVerse ({ frames := 2, cells := 0, slots := 0, locals := 42 } : Room) D (kTy cI cC cS) [.ref aD.1, .int i1, .int i2] (wMD cC cI aD vD0 vD1 vD2 vD3 vD4 vD5 vD6 vD7 vD8 vD9 vD10 vD11 vD12 vD13 vD14 vD15 vD16 vD17 vD18 vD19 vD20 vD21 vD22) sz q (wMD cC cI aD vD0 vD1 vD2 vD3 vD4 vD5 vD6 vD7 vD8 vD9 vD10 vD11 vD12 vD13 vD14 vD15 vD16 vD17 vD18 vD19 vD20 vD21 vD22) := by
  refine Met.ofW (cc := cX10_noVerse) (maxL := 3) (ret := (some .boolean)) (by decide) rfl ?_
  intro p e s m args below meth c s₁ B hml hv
  obtain ⟨rfl, hsz, hP, hK, hD0, hN⟩ := hv
  have hx := B.exec
  have hb := B.bytes
  have hr := B.returns
  have hts := atoms_spec (ws := wsX10_noVerse) B.pre
  have hown : s.vm.findClass RX10 = some m.cls := findClass_of_methodNamed B.named
  have hlocks := B.notSynchronized
  subst hsz
  have hD := hD0.self (sz := s.heap.size)
  generalize hAe : va_A (wMD cC cI aD vD0 vD1 vD2 vD3 vD4 vD5 vD6 vD7 vD8 vD9 vD10 vD11 vD12 vD13 vD14 vD15 vD16 vD17 vD18 vD19 vD20 vD21 vD22) s.heap.size = A at hD ⊢
  have hA : ∀ q : Nat, s.heap.size ≤ q → A q := fun q h => by rw [← hAe]; exact Or.inr h
  have hS : va_S A s.heap s.heap [] := va_S.rf
  have hl := lv_entry ([.ref aD.1, .int i1, .int i2]) (n := 3) (Nat.le_of_ble_eq_true rfl)
  rw [lg_entry_eq]
  generalize (lg_sl ([.ref aD.1, .int i1, .int i2]) ++ List.replicate (3 - (lg_sl ([.ref aD.1, .int i1, .int i2])).length) Slot.unset).toArray = ls at hl ⊢
  have hl : lv_has ls 3 [(0, .ref aD.1), (1, .int i1), (2, .int i2)] := hl
  unfold pX10_noVerse at h
  refine lv_iload_n hx hb dX10_noVerse_0 rfl (lv_at hl 1 rfl) ?_
  obtain ⟨q2, h1, h⟩ := Option.bind_eq_some_iff.mp h
  refine kcir [] (va_runS (As := [.int i1]) (rest := []) ⟨hx, hb, hml, hown, hts⟩ (kX10_noBook l D cI cC cS i1 s.heap.size h1) (cwS 1 hts gX10_noVerse_X10_noBook rfl rfl rfl (by decide +kernel) ⟨Nat.le_of_ble_eq_true rfl, Nat.le_of_ble_eq_true rfl⟩) (kpre hK hN hP hD [] rfl (by decide)) rfl rfl hl.1 rfl (lv_room (Nat.le_of_ble_eq_true rfl)) dX10_noVerse_1 ⟨Nat.le_refl _, Nat.le_refl _⟩) hP hD hS hA rfl (fun H locs hP hS => ?_)
  refine lv_if_ne (tgt := 22) hx hb dX10_noVerse_4 (by decide) (fun g => ?_) (fun g => ?_)
  · rw [if_neg g] at h
    refine lv_iconst (v := (1 : Int32)) hx hb dX10_noVerse_22 (by decide) ?_
    refine lv_goto (tgt := 27) hx hb dX10_noVerse_23 (by decide) ?_
    obtain rfl := Option.some.inj h
    exact W.zret (v := (1 : Int32)) hx hb hr rfl (fun t ht hW => ⟨⟨_, (), rfl, rfl, by rw [ht]; exact hP, hD⟩, hS.F ht⟩) hS.2.2 dX10_noVerse_27
  · rw [if_pos g] at h
    refine lv_iload_n hx hb dX10_noVerse_7 rfl (lv_at hl 2 rfl) ?_
    refine lv_iconst (v := (0 : Int32)) hx hb dX10_noVerse_8 (by decide) ?_
    refine lv_aload_n hx hb dX10_noVerse_9 rfl (lv_at hl 0 rfl) ?_
    refine lv_iload_n hx hb dX10_noVerse_10 rfl (lv_at hl 1 rfl) ?_
    obtain ⟨q4, h3, h⟩ := Option.bind_eq_some_iff.mp h
    refine kcir [0, 1, 2, 3, 4, 5, 6, 7, 8, 9, 10] (va_runV (As := [.int i1]) (rest := [.int (0 : Int32), .int i2]) ⟨hx, hb, hml, hown, hts⟩ (kX10_size l D cI cC cS aD vD0 vD1 vD2 vD3 vD4 vD5 vD6 vD7 vD8 vD9 vD10 vD11 vD12 vD13 vD14 vD15 vD16 vD17 vD18 vD19 vD20 vD21 vD22 i1 H.size h3) (cwV 1 hts gX10_noVerse_X10_size rfl rfl rfl (by decide +kernel) ⟨Nat.le_of_ble_eq_true rfl, Nat.le_of_ble_eq_true rfl⟩) (kpreV hK hN hP hD [0, 1, 2, 3, 4, 5, 6, 7, 8, 9, 10] rfl (by decide) 10 rfl rfl) rfl rfl hl.1 rfl (lv_room (Nat.le_of_ble_eq_true rfl)) dX10_noVerse_11 ⟨Nat.le_refl _, Nat.le_refl _⟩) hP hD hS hA rfl (fun H locs hP hS => ?_)
    refine lv_iconst (v := (1 : Int32)) hx hb dX10_noVerse_14 (by decide) ?_
    refine lv_isub hx hb dX10_noVerse_15 ?_
    obtain ⟨q6, h5, h⟩ := Option.bind_eq_some_iff.mp h
    refine kcir [] (va_runS (As := [.int i2, .int (0 : Int32), .int (q4 - (1 : Int32))]) (rest := []) ⟨hx, hb, hml, hown, hts⟩ (kX10_in l D cI cC cS i2 (0 : Int32) (q4 - (1 : Int32)) H.size h5) (cwS 3 hts gX10_noVerse_X10_in rfl rfl rfl (by decide +kernel) ⟨Nat.le_of_ble_eq_true rfl, Nat.le_of_ble_eq_true rfl⟩) (kpre hK hN hP hD [] rfl (by decide)) rfl rfl hl.1 rfl (lv_room (Nat.le_of_ble_eq_true rfl)) dX10_noVerse_16 ⟨Nat.le_refl _, Nat.le_refl _⟩) hP hD hS hA rfl (fun H locs hP hS => ?_)
    refine lv_if_ne (tgt := 26) hx hb dX10_noVerse_19 (by decide) (fun g => ?_) (fun g => ?_)
    · rw [if_neg g] at h
      refine lv_iconst (v := (0 : Int32)) hx hb dX10_noVerse_26 (by decide) ?_
      obtain rfl := Option.some.inj h
      exact W.zret (v := (0 : Int32)) hx hb hr rfl (fun t ht hW => ⟨⟨_, (), rfl, rfl, by rw [ht]; exact hP, hD⟩, hS.F ht⟩) hS.2.2 dX10_noVerse_27
    · rw [if_pos g] at h
      refine lv_iconst (v := (1 : Int32)) hx hb dX10_noVerse_22 (by decide) ?_
      refine lv_goto (tgt := 27) hx hb dX10_noVerse_23 (by decide) ?_
      obtain rfl := Option.some.inj h
      exact W.zret (v := (1 : Int32)) hx hb hr rfl (fun t ht hW => ⟨⟨_, (), rfl, rfl, by rw [ht]; exact hP, hD⟩, hS.F ht⟩) hS.2.2 dX10_noVerse_27
set_option maxHeartbeats 8000000 in
set_option maxRecDepth 100000 in
theorem kX10_groups (l : Launch) (D : va_G) (cI cC cS : ClassId) (aD : Nat × Nat × Nat × Nat × Nat × Nat × Nat × Nat × Nat × Nat × Nat) (vD0 : (Nat → Int32)) (vD1 : (Nat → Int32)) (vD2 : Int32) (vD3 : Int32) (vD4 : (Nat → Int32)) (vD5 : Int32) (vD6 : Int32) (vD7 : Int32) (vD8 : Int32) (vD9 : Int32) (vD10 : Int32) (vD11 : (Nat → Int32)) (vD12 : (Nat → Int32)) (vD13 : Int32) (vD14 : Int32) (vD15 : (Nat → Int32)) (vD16 : Int32) (vD17 : Int32) (vD18 : Int32) (vD19 : (Nat → Int32)) (vD20 : (Nat → Int32)) (vD21 : (Nat → Int32)) (vD22 : (Nat → Int32)) (sz : Nat) {q : Int32} (h : pX10_groups vD0 = some q) : kMi l yX10_groups wsX10_groups ({ frames := 0, cells := 0, slots := 0, locals := 0 } : Room) D (kTy cI cC cS) [.ref aD.1] (wMD cC cI aD vD0 vD1 vD2 vD3 vD4 vD5 vD6 vD7 vD8 vD9 vD10 vD11 vD12 vD13 vD14 vD15 vD16 vD17 vD18 vD19 vD20 vD21 vD22) sz q (wMD cC cI aD vD0 vD1 vD2 vD3 vD4 vD5 vD6 vD7 vD8 vD9 vD10 vD11 vD12 vD13 vD14 vD15 vD16 vD17 vD18 vD19 vD20 vD21 vD22) := by
  refine Met.ofW (cc := cX10_groups) (maxL := 1) (ret := (some .int)) (by decide) rfl ?_
  intro p e s m args below meth c s₁ B hml hv
  obtain ⟨rfl, hsz, hP, hK, hD0, hN⟩ := hv
  have hx := B.exec
  have hb := B.bytes
  have hr := B.returns
  have hts := atoms_spec (ws := wsX10_groups) B.pre
  have hown : s.vm.findClass RX10 = some m.cls := findClass_of_methodNamed B.named
  have hlocks := B.notSynchronized
  subst hsz
  have hD := hD0.self (sz := s.heap.size)
  generalize hAe : va_A (wMD cC cI aD vD0 vD1 vD2 vD3 vD4 vD5 vD6 vD7 vD8 vD9 vD10 vD11 vD12 vD13 vD14 vD15 vD16 vD17 vD18 vD19 vD20 vD21 vD22) s.heap.size = A at hD ⊢
  have hA : ∀ q : Nat, s.heap.size ≤ q → A q := fun q h => by rw [← hAe]; exact Or.inr h
  have hS : va_S A s.heap s.heap [] := va_S.rf
  have huX10 : ∀ w ∈ u_ws RX10 TX10 23, w ∈ wsX10_groups := by decide +kernel
  have hl := lv_entry ([.ref aD.1]) (n := 1) (Nat.le_of_ble_eq_true rfl)
  rw [lg_entry_eq]
  generalize (lg_sl ([.ref aD.1]) ++ List.replicate (1 - (lg_sl ([.ref aD.1])).length) Slot.unset).toArray = ls at hl ⊢
  have hl : lv_has ls 1 [(0, .ref aD.1)] := hl
  unfold pX10_groups at h
  refine lv_aload_n hx hb dX10_groups_0 rfl (lv_at hl 0 rfl) ?_
  refine va_get (D := D) (ci := 10) (v := .ref aD.2.1) (C := RX10) (T := TX10) (N := 23) hx hb hts huX10 hown hK hP 0 rfl rfl 0 (by decide) (hts (.fieldLink RX10 7 "VerseColumnsModel" "row" "[I") (by decide +kernel)) (fun _ h9 => h9) rfl dX10_groups_1 ?_
  refine lv_sipush (v := (364 : Int32)) hx hb dX10_groups_4 (by decide) ?_
  obtain ⟨g, h⟩ := kif h
  refine va_iald hx hb hK hP 1 0 rfl rfl (kin g) dX10_groups_7 ?_
  obtain rfl := Option.some.inj h
  exact W.iret (v := (vD0 (364 : Int32).toNatClampNeg)) hx hb hr (fun t ht hW => ⟨⟨_, (), rfl, rfl, by rw [ht]; exact hP, hD⟩, hS.F ht⟩) hS.2.2 dX10_groups_8
set_option maxHeartbeats 8000000 in
set_option maxRecDepth 100000 in
theorem kX10_noGroup (l : Launch) (D : va_G) (cI cC cS : ClassId) (aD : Nat × Nat × Nat × Nat × Nat × Nat × Nat × Nat × Nat × Nat × Nat) (vD0 : (Nat → Int32)) (vD1 : (Nat → Int32)) (vD2 : Int32) (vD3 : Int32) (vD4 : (Nat → Int32)) (vD5 : Int32) (vD6 : Int32) (vD7 : Int32) (vD8 : Int32) (vD9 : Int32) (vD10 : Int32) (vD11 : (Nat → Int32)) (vD12 : (Nat → Int32)) (vD13 : Int32) (vD14 : Int32) (vD15 : (Nat → Int32)) (vD16 : Int32) (vD17 : Int32) (vD18 : Int32) (vD19 : (Nat → Int32)) (vD20 : (Nat → Int32)) (vD21 : (Nat → Int32)) (vD22 : (Nat → Int32)) (i1 : Int32) (sz : Nat) {q : Int32} (h : pX10_noGroup vD0 i1 = some q) : kMi l yX10_noGroup wsX10_noGroup ({ frames := 1, cells := 0, slots := 0, locals := 22 } : Room) D (kTy cI cC cS) [.ref aD.1, .int i1] (wMD cC cI aD vD0 vD1 vD2 vD3 vD4 vD5 vD6 vD7 vD8 vD9 vD10 vD11 vD12 vD13 vD14 vD15 vD16 vD17 vD18 vD19 vD20 vD21 vD22) sz q (wMD cC cI aD vD0 vD1 vD2 vD3 vD4 vD5 vD6 vD7 vD8 vD9 vD10 vD11 vD12 vD13 vD14 vD15 vD16 vD17 vD18 vD19 vD20 vD21 vD22) := by
  refine Met.ofW (cc := cX10_noGroup) (maxL := 2) (ret := (some .boolean)) (by decide) rfl ?_
  intro p e s m args below meth c s₁ B hml hv
  obtain ⟨rfl, hsz, hP, hK, hD0, hN⟩ := hv
  have hx := B.exec
  have hb := B.bytes
  have hr := B.returns
  have hts := atoms_spec (ws := wsX10_noGroup) B.pre
  have hown : s.vm.findClass RX10 = some m.cls := findClass_of_methodNamed B.named
  have hlocks := B.notSynchronized
  subst hsz
  have hD := hD0.self (sz := s.heap.size)
  generalize hAe : va_A (wMD cC cI aD vD0 vD1 vD2 vD3 vD4 vD5 vD6 vD7 vD8 vD9 vD10 vD11 vD12 vD13 vD14 vD15 vD16 vD17 vD18 vD19 vD20 vD21 vD22) s.heap.size = A at hD ⊢
  have hA : ∀ q : Nat, s.heap.size ≤ q → A q := fun q h => by rw [← hAe]; exact Or.inr h
  have hS : va_S A s.heap s.heap [] := va_S.rf
  have hl := lv_entry ([.ref aD.1, .int i1]) (n := 2) (Nat.le_of_ble_eq_true rfl)
  rw [lg_entry_eq]
  generalize (lg_sl ([.ref aD.1, .int i1]) ++ List.replicate (2 - (lg_sl ([.ref aD.1, .int i1])).length) Slot.unset).toArray = ls at hl ⊢
  have hl : lv_has ls 2 [(0, .ref aD.1), (1, .int i1)] := hl
  unfold pX10_noGroup at h
  refine lv_iload_n hx hb dX10_noGroup_0 rfl (lv_at hl 1 rfl) ?_
  refine lv_iconst (v := (0 : Int32)) hx hb dX10_noGroup_1 (by decide) ?_
  refine lv_aload_n hx hb dX10_noGroup_2 rfl (lv_at hl 0 rfl) ?_
  obtain ⟨q2, h1, h⟩ := Option.bind_eq_some_iff.mp h
  refine kcir [0, 1, 2, 3, 4, 5, 6, 7, 8, 9, 10] (va_runV (As := []) (rest := [.int (0 : Int32), .int i1]) ⟨hx, hb, hml, hown, hts⟩ (kX10_groups l D cI cC cS aD vD0 vD1 vD2 vD3 vD4 vD5 vD6 vD7 vD8 vD9 vD10 vD11 vD12 vD13 vD14 vD15 vD16 vD17 vD18 vD19 vD20 vD21 vD22 s.heap.size h1) (cwV 0 hts gX10_noGroup_X10_groups rfl rfl rfl (by decide +kernel) ⟨Nat.le_of_ble_eq_true rfl, Nat.le_of_ble_eq_true rfl⟩) (kpreV hK hN hP hD [0, 1, 2, 3, 4, 5, 6, 7, 8, 9, 10] rfl (by decide) 10 rfl rfl) rfl rfl hl.1 rfl (lv_room (Nat.le_of_ble_eq_true rfl)) dX10_noGroup_3 ⟨Nat.le_refl _, Nat.le_refl _⟩) hP hD hS hA rfl (fun H locs hP hS => ?_)
  refine lv_iconst (v := (1 : Int32)) hx hb dX10_noGroup_6 (by decide) ?_
  refine lv_isub hx hb dX10_noGroup_7 ?_
  obtain ⟨q4, h3, h⟩ := Option.bind_eq_some_iff.mp h
  refine kcir [] (va_runS (As := [.int i1, .int (0 : Int32), .int (q2 - (1 : Int32))]) (rest := []) ⟨hx, hb, hml, hown, hts⟩ (kX10_in l D cI cC cS i1 (0 : Int32) (q2 - (1 : Int32)) H.size h3) (cwS 3 hts gX10_noGroup_X10_in rfl rfl rfl (by decide +kernel) ⟨Nat.le_of_ble_eq_true rfl, Nat.le_of_ble_eq_true rfl⟩) (kpre hK hN hP hD [] rfl (by decide)) rfl rfl hl.1 rfl (lv_room (Nat.le_of_ble_eq_true rfl)) dX10_noGroup_8 ⟨Nat.le_refl _, Nat.le_refl _⟩) hP hD hS hA rfl (fun H locs hP hS => ?_)
  refine lv_if_ne (tgt := 18) hx hb dX10_noGroup_11 (by decide) (fun g => ?_) (fun g => ?_)
  · rw [if_neg g] at h
    refine lv_iconst (v := (0 : Int32)) hx hb dX10_noGroup_18 (by decide) ?_
    obtain rfl := Option.some.inj h
    exact W.zret (v := (0 : Int32)) hx hb hr rfl (fun t ht hW => ⟨⟨_, (), rfl, rfl, by rw [ht]; exact hP, hD⟩, hS.F ht⟩) hS.2.2 dX10_noGroup_19
  · rw [if_pos g] at h
    refine lv_iconst (v := (1 : Int32)) hx hb dX10_noGroup_14 (by decide) ?_
    refine lv_goto (tgt := 19) hx hb dX10_noGroup_15 (by decide) ?_
    obtain rfl := Option.some.inj h
    exact W.zret (v := (1 : Int32)) hx hb hr rfl (fun t ht hW => ⟨⟨_, (), rfl, rfl, by rw [ht]; exact hP, hD⟩, hS.F ht⟩) hS.2.2 dX10_noGroup_19
set_option maxHeartbeats 8000000 in
set_option maxRecDepth 100000 in
theorem kX10_has (l : Launch) (D : va_G) (cI cC cS : ClassId) (aD : Nat × Nat × Nat × Nat × Nat × Nat × Nat × Nat × Nat × Nat × Nat) (vD0 : (Nat → Int32)) (vD1 : (Nat → Int32)) (vD2 : Int32) (vD3 : Int32) (vD4 : (Nat → Int32)) (vD5 : Int32) (vD6 : Int32) (vD7 : Int32) (vD8 : Int32) (vD9 : Int32) (vD10 : Int32) (vD11 : (Nat → Int32)) (vD12 : (Nat → Int32)) (vD13 : Int32) (vD14 : Int32) (vD15 : (Nat → Int32)) (vD16 : Int32) (vD17 : Int32) (vD18 : Int32) (vD19 : (Nat → Int32)) (vD20 : (Nat → Int32)) (vD21 : (Nat → Int32)) (vD22 : (Nat → Int32)) (i1 : Int32) (i2 : Int32) (sz : Nat) {q : Int32} (h : pX10_has vD0 i1 i2 = some q) : kMi l yX10_has wsX10_has ({ frames := 0, cells := 0, slots := 0, locals := 0 } : Room) D (kTy cI cC cS) [.ref aD.1, .int i1, .int i2] (wMD cC cI aD vD0 vD1 vD2 vD3 vD4 vD5 vD6 vD7 vD8 vD9 vD10 vD11 vD12 vD13 vD14 vD15 vD16 vD17 vD18 vD19 vD20 vD21 vD22) sz q (wMD cC cI aD vD0 vD1 vD2 vD3 vD4 vD5 vD6 vD7 vD8 vD9 vD10 vD11 vD12 vD13 vD14 vD15 vD16 vD17 vD18 vD19 vD20 vD21 vD22) := by
  refine Met.ofW (cc := cX10_has) (maxL := 3) (ret := (some .int)) (by decide) rfl ?_
  intro p e s m args below meth c s₁ B hml hv
  obtain ⟨rfl, hsz, hP, hK, hD0, hN⟩ := hv
  have hx := B.exec
  have hb := B.bytes
  have hr := B.returns
  have hts := atoms_spec (ws := wsX10_has) B.pre
  have hown : s.vm.findClass RX10 = some m.cls := findClass_of_methodNamed B.named
  have hlocks := B.notSynchronized
  subst hsz
  have hD := hD0.self (sz := s.heap.size)
  generalize hAe : va_A (wMD cC cI aD vD0 vD1 vD2 vD3 vD4 vD5 vD6 vD7 vD8 vD9 vD10 vD11 vD12 vD13 vD14 vD15 vD16 vD17 vD18 vD19 vD20 vD21 vD22) s.heap.size = A at hD ⊢
  have hA : ∀ q : Nat, s.heap.size ≤ q → A q := fun q h => by rw [← hAe]; exact Or.inr h
  have hS : va_S A s.heap s.heap [] := va_S.rf
  have huX10 : ∀ w ∈ u_ws RX10 TX10 23, w ∈ wsX10_has := by decide +kernel
  have hl := lv_entry ([.ref aD.1, .int i1, .int i2]) (n := 3) (Nat.le_of_ble_eq_true rfl)
  rw [lg_entry_eq]
  generalize (lg_sl ([.ref aD.1, .int i1, .int i2]) ++ List.replicate (3 - (lg_sl ([.ref aD.1, .int i1, .int i2])).length) Slot.unset).toArray = ls at hl ⊢
  have hl : lv_has ls 3 [(0, .ref aD.1), (1, .int i1), (2, .int i2)] := hl
  unfold pX10_has at h
  refine lv_aload_n hx hb dX10_has_0 rfl (lv_at hl 0 rfl) ?_
  refine va_get (D := D) (ci := 10) (v := .ref aD.2.1) (C := RX10) (T := TX10) (N := 23) hx hb hts huX10 hown hK hP 0 rfl rfl 0 (by decide) (hts (.fieldLink RX10 7 "VerseColumnsModel" "row" "[I") (by decide +kernel)) (fun _ h9 => h9) rfl dX10_has_1 ?_
  refine lv_iload_n hx hb dX10_has_4 rfl (lv_at hl 2 rfl) ?_
  refine lv_if_ne (tgt := 14) hx hb dX10_has_5 (by decide) (fun g => ?_) (fun g => ?_)
  · rw [if_neg g] at h
    refine lv_sipush (v := (485 : Int32)) hx hb dX10_has_14 (by decide) ?_
    refine lv_iload_n hx hb dX10_has_17 rfl (lv_at hl 1 rfl) ?_
    refine lv_iadd hx hb dX10_has_18 ?_
    obtain ⟨g, h⟩ := kif h
    refine va_iald hx hb hK hP 1 0 rfl rfl (kin g) dX10_has_19 ?_
    obtain rfl := Option.some.inj h
    exact W.iret (v := (vD0 ((485 : Int32) + i1).toNatClampNeg)) hx hb hr (fun t ht hW => ⟨⟨_, (), rfl, rfl, by rw [ht]; exact hP, hD⟩, hS.F ht⟩) hS.2.2 dX10_has_20
  · rw [if_pos g] at h
    refine lv_sipush (v := (365 : Int32)) hx hb dX10_has_8 (by decide) ?_
    refine lv_goto (tgt := 17) hx hb dX10_has_11 (by decide) ?_
    refine lv_iload_n hx hb dX10_has_17 rfl (lv_at hl 1 rfl) ?_
    refine lv_iadd hx hb dX10_has_18 ?_
    obtain ⟨g, h⟩ := kif h
    refine va_iald hx hb hK hP 1 0 rfl rfl (kin g) dX10_has_19 ?_
    obtain rfl := Option.some.inj h
    exact W.iret (v := (vD0 ((365 : Int32) + i1).toNatClampNeg)) hx hb hr (fun t ht hW => ⟨⟨_, (), rfl, rfl, by rw [ht]; exact hP, hD⟩, hS.F ht⟩) hS.2.2 dX10_has_20
set_option maxHeartbeats 8000000 in
set_option maxRecDepth 100000 in
theorem kX10_record (l : Launch) (D : va_G) (cI cC cS : ClassId) (aD : Nat × Nat × Nat × Nat × Nat × Nat × Nat × Nat × Nat × Nat × Nat) (vD0 : (Nat → Int32)) (vD1 : (Nat → Int32)) (vD2 : Int32) (vD3 : Int32) (vD4 : (Nat → Int32)) (vD5 : Int32) (vD6 : Int32) (vD7 : Int32) (vD8 : Int32) (vD9 : Int32) (vD10 : Int32) (vD11 : (Nat → Int32)) (vD12 : (Nat → Int32)) (vD13 : Int32) (vD14 : Int32) (vD15 : (Nat → Int32)) (vD16 : Int32) (vD17 : Int32) (vD18 : Int32) (vD19 : (Nat → Int32)) (vD20 : (Nat → Int32)) (vD21 : (Nat → Int32)) (vD22 : (Nat → Int32)) (sz : Nat) {q : (Nat → Int32) × Int32} (h : pX10_record vD0 vD1 vD2 = some q) : kMv l yX10_record wsX10_record ({ frames := 0, cells := 0, slots := 0, locals := 0 } : Room) D (kTy cI cC cS) [.ref aD.1] (wMD cC cI aD vD0 vD1 vD2 vD3 vD4 vD5 vD6 vD7 vD8 vD9 vD10 vD11 vD12 vD13 vD14 vD15 vD16 vD17 vD18 vD19 vD20 vD21 vD22) sz (wMD cC cI aD vD0 q.1 q.2 vD3 vD4 vD5 vD6 vD7 vD8 vD9 vD10 vD11 vD12 vD13 vD14 vD15 vD16 vD17 vD18 vD19 vD20 vD21 vD22) := by
  refine Met.ofW (cc := cX10_record) (maxL := 2) (ret := none) (by decide) rfl ?_
  intro p e s m args below meth c s₁ B hml hv
  obtain ⟨rfl, hsz, hP, hK, hD0, hN⟩ := hv
  have hx := B.exec
  have hb := B.bytes
  have hr := B.returns
  have hts := atoms_spec (ws := wsX10_record) B.pre
  have hown : s.vm.findClass RX10 = some m.cls := findClass_of_methodNamed B.named
  have hlocks := B.notSynchronized
  subst hsz
  have hD := hD0.self (sz := s.heap.size)
  generalize hAe : va_A (wMD cC cI aD vD0 vD1 vD2 vD3 vD4 vD5 vD6 vD7 vD8 vD9 vD10 vD11 vD12 vD13 vD14 vD15 vD16 vD17 vD18 vD19 vD20 vD21 vD22) s.heap.size = A at hD ⊢
  have hA : ∀ q : Nat, s.heap.size ≤ q → A q := fun q h => by rw [← hAe]; exact Or.inr h
  have hS : va_S A s.heap s.heap [] := va_S.rf
  have huX10 : ∀ w ∈ u_ws RX10 TX10 23, w ∈ wsX10_record := by decide +kernel
  have hl := lv_entry ([.ref aD.1]) (n := 2) (Nat.le_of_ble_eq_true rfl)
  rw [lg_entry_eq]
  generalize (lg_sl ([.ref aD.1]) ++ List.replicate (2 - (lg_sl ([.ref aD.1])).length) Slot.unset).toArray = ls at hl ⊢
  have hl : lv_has ls 2 [(0, .ref aD.1)] := hl
  have L56 : ∀ (nL56 : Nat) (c0_1 : (Nat → Int32)) (c0_2 : Int32) (y1 : Int32) (H : Heap) (locs : List Loc) (ls : Array Slot), pX10_record_L56 vD0 nL56 c0_1 c0_2 y1 = some q → va_P D vwCl (wMD cC cI aD vD0 c0_1 c0_2 vD3 vD4 vD5 vD6 vD7 vD8 vD9 vD10 vD11 vD12 vD13 vD14 vD15 vD16 vD17 vD18 vD19 vD20 vD21 vD22) H → va_D A (wMD cC cI aD vD0 c0_1 c0_2 vD3 vD4 vD5 vD6 vD7 vD8 vD9 vD10 vD11 vD12 vD13 vD14 vD15 vD16 vD17 vD18 vD19 vD20 vD21 vD22) → va_S A s.heap H locs → lv_has ls 2 [(0, .ref aD.1), (1, .int y1)] → W p l e ({ frames := 0, cells := 0, slots := 0, locals := 0 } : Room) s m ([.ref aD.1] : List Value).toArray below meth c H locs 0 0 (MQ below (va_Qv (fun (_ : Unit) => True) (fun _ => kPost D (wMD cC cI aD vD0 q.1 q.2 vD3 vD4 vD5 vD6 vD7 vD8 vD9 vD10 vD11 vD12 vD13 vD14 vD15 vD16 vD17 vD18 vD19 vD20 vD21 vD22) A) A) ([.ref aD.1] : List Value).toArray s 0 0 A) (F0 m 56 ls []) := by
    clear h hP hD hS hl
    intro nL56
    induction nL56 with
    | zero => intro c0_1 c0_2 y1 H locs ls h; have h : (none : Option ((Nat → Int32) × Int32)) = some q := h; cases h
    | succ nL56 ihL56 =>
      intro c0_1 c0_2 y1 H locs ls h hP hD hS hl
      have h : pX10_record_bL56 vD0 (pX10_record_L56 vD0 nL56) c0_1 c0_2 y1 = some q := h
      unfold pX10_record_bL56 at h
      refine lv_iload_n hx hb dX10_record_56 rfl (lv_at hl 1 rfl) ?_
      refine lv_sipush (v := (605 : Int32)) hx hb dX10_record_57 (by decide) ?_
      refine lv_icmp_ge (tgt := 90) hx hb dX10_record_60 (by decide) (fun g => ?_) (fun g => ?_)
      · rw [if_pos g] at h
        refine lv_aload_n hx hb dX10_record_90 rfl (lv_at hl 0 rfl) ?_
        refine lv_dup hx hb dX10_record_91 rfl ?_
        refine va_get (D := D) (ci := 10) (v := .int c0_2) (C := RX10) (T := TX10) (N := 23) hx hb hts huX10 hown hK hP 0 rfl rfl 2 (by decide) (hts (.fieldLink RX10 64 "VerseColumnsModel" "kept" "I") (by decide +kernel)) (fun _ h9 => h9) rfl dX10_record_92 ?_
        refine lv_iconst (v := (1 : Int32)) hx hb dX10_record_95 (by decide) ?_
        refine lv_iadd hx hb dX10_record_96 ?_
        refine va_put (D := D) (ci := 10) (v := .int (c0_2 + (1 : Int32))) (ty := .int) (C := RX10) (T := TX10) (N := 23) hx hb hts huX10 tyX10 tyX10_ok nmX10 hown hK hP hD hS 0 rfl rfl 2 (by decide) (hts (.fieldLink RX10 64 "VerseColumnsModel" "kept" "I") (by decide +kernel)) (fun _ h9 => h9) rfl (by decide +kernel) rfl rfl (Nat.le_of_ble_eq_true rfl) dX10_record_97 (fun H locs hP hD hS => ?_)
        have hP : va_P D vwCl (wMD cC cI aD vD0 c0_1 (c0_2 + (1 : Int32)) vD3 vD4 vD5 vD6 vD7 vD8 vD9 vD10 vD11 vD12 vD13 vD14 vD15 vD16 vD17 vD18 vD19 vD20 vD21 vD22) H := hP
        have hD : va_D A (wMD cC cI aD vD0 c0_1 (c0_2 + (1 : Int32)) vD3 vD4 vD5 vD6 vD7 vD8 vD9 vD10 vD11 vD12 vD13 vD14 vD15 vD16 vD17 vD18 vD19 vD20 vD21 vD22) := hD
        obtain rfl := Option.some.inj h
        exact W.vret hx hb hr (fun t ht hW => ⟨⟨(), rfl, trivial, by rw [ht]; exact hP, hD⟩, hS.F ht⟩) hS.2.2 dX10_record_100
      · rw [if_neg g] at h
        refine lv_aload_n hx hb dX10_record_63 rfl (lv_at hl 0 rfl) ?_
        refine va_get (D := D) (ci := 10) (v := .ref aD.2.2.1) (C := RX10) (T := TX10) (N := 23) hx hb hts huX10 hown hK hP 0 rfl rfl 1 (by decide) (hts (.fieldLink RX10 13 "VerseColumnsModel" "history" "[I") (by decide +kernel)) (fun _ h9 => h9) rfl dX10_record_64 ?_
        refine lv_sipush (v := (605 : Int32)) hx hb dX10_record_67 (by decide) ?_
        refine lv_aload_n hx hb dX10_record_70 rfl (lv_at hl 0 rfl) ?_
        refine va_get (D := D) (ci := 10) (v := .int c0_2) (C := RX10) (T := TX10) (N := 23) hx hb hts huX10 hown hK hP 0 rfl rfl 2 (by decide) (hts (.fieldLink RX10 64 "VerseColumnsModel" "kept" "I") (by decide +kernel)) (fun _ h9 => h9) rfl dX10_record_71 ?_
        refine lv_imul hx hb dX10_record_74 ?_
        refine lv_iload_n hx hb dX10_record_75 rfl (lv_at hl 1 rfl) ?_
        refine lv_iadd hx hb dX10_record_76 ?_
        refine lv_aload_n hx hb dX10_record_77 rfl (lv_at hl 0 rfl) ?_
        refine va_get (D := D) (ci := 10) (v := .ref aD.2.1) (C := RX10) (T := TX10) (N := 23) hx hb hts huX10 hown hK hP 0 rfl rfl 0 (by decide) (hts (.fieldLink RX10 7 "VerseColumnsModel" "row" "[I") (by decide +kernel)) (fun _ h9 => h9) rfl dX10_record_78 ?_
        refine lv_iload_n hx hb dX10_record_81 rfl (lv_at hl 1 rfl) ?_
        obtain ⟨g, h⟩ := kif h
        refine va_iald hx hb hK hP 1 0 rfl rfl (kin g) dX10_record_82 ?_
        obtain ⟨g, h⟩ := kif h
        refine va_iast hx hb hK hP hD hS 2 0 rfl rfl (kin g) dX10_record_83 (fun H locs hP hD hS => ?_)
        have hP : va_P D vwCl (wMD cC cI aD vD0 (upd c0_1 (((605 : Int32) * c0_2) + y1).toNatClampNeg (vD0 y1.toNatClampNeg)) c0_2 vD3 vD4 vD5 vD6 vD7 vD8 vD9 vD10 vD11 vD12 vD13 vD14 vD15 vD16 vD17 vD18 vD19 vD20 vD21 vD22) H := hP
        have hD : va_D A (wMD cC cI aD vD0 (upd c0_1 (((605 : Int32) * c0_2) + y1).toNatClampNeg (vD0 y1.toNatClampNeg)) c0_2 vD3 vD4 vD5 vD6 vD7 vD8 vD9 vD10 vD11 vD12 vD13 vD14 vD15 vD16 vD17 vD18 vD19 vD20 vD21 vD22) := hD
        refine lv_iinc (v := (y1 + (1 : Int32))) (lv' := [(1, .int (y1 + (1 : Int32))), (0, .ref aD.1)]) hx hb dX10_record_84 hl (k := 1) rfl rfl (by decide) rfl (fun ls hl => ?_)
        refine lv_goto (tgt := 56) hx hb dX10_record_87 (by decide) ?_
        exact ihL56 (upd c0_1 (((605 : Int32) * c0_2) + y1).toNatClampNeg (vD0 y1.toNatClampNeg)) c0_2 (y1 + (1 : Int32)) _ _ _ h hP hD hS (lv_sub hl [1, 0] rfl)
  have j54 : ∀ (c0_1 : (Nat → Int32)) (c0_2 : Int32) (H : Heap) (locs : List Loc) (ls : Array Slot), pX10_record_j54 vD0 c0_1 c0_2 = some q → va_P D vwCl (wMD cC cI aD vD0 c0_1 c0_2 vD3 vD4 vD5 vD6 vD7 vD8 vD9 vD10 vD11 vD12 vD13 vD14 vD15 vD16 vD17 vD18 vD19 vD20 vD21 vD22) H → va_D A (wMD cC cI aD vD0 c0_1 c0_2 vD3 vD4 vD5 vD6 vD7 vD8 vD9 vD10 vD11 vD12 vD13 vD14 vD15 vD16 vD17 vD18 vD19 vD20 vD21 vD22) → va_S A s.heap H locs → lv_has ls 2 [(0, .ref aD.1)] → W p l e ({ frames := 0, cells := 0, slots := 0, locals := 0 } : Room) s m ([.ref aD.1] : List Value).toArray below meth c H locs 0 0 (MQ below (va_Qv (fun (_ : Unit) => True) (fun _ => kPost D (wMD cC cI aD vD0 q.1 q.2 vD3 vD4 vD5 vD6 vD7 vD8 vD9 vD10 vD11 vD12 vD13 vD14 vD15 vD16 vD17 vD18 vD19 vD20 vD21 vD22) A) A) ([.ref aD.1] : List Value).toArray s 0 0 A) (F0 m 54 ls []) := by
    clear h hP hD hS hl
    intro c0_1 c0_2 H locs ls h hP hD hS hl
    unfold pX10_record_j54 at h
    refine lv_iconst (v := (0 : Int32)) hx hb dX10_record_54 (by decide) ?_
    refine lv_istore_n (lv' := [(1, .int (0 : Int32)), (0, .ref aD.1)]) hx hb dX10_record_55 rfl hl (by decide) rfl (fun ls hl => ?_)
    exact L56 4000 c0_1 c0_2 (0 : Int32) _ _ _ h hP hD hS (lv_sub hl [1, 0] rfl)
  have L20 : ∀ (nL20 : Nat) (c0_1 : (Nat → Int32)) (c0_2 : Int32) (y1 : Int32) (H : Heap) (locs : List Loc) (ls : Array Slot), pX10_record_L20 vD0 nL20 c0_1 c0_2 y1 = some q → va_P D vwCl (wMD cC cI aD vD0 c0_1 c0_2 vD3 vD4 vD5 vD6 vD7 vD8 vD9 vD10 vD11 vD12 vD13 vD14 vD15 vD16 vD17 vD18 vD19 vD20 vD21 vD22) H → va_D A (wMD cC cI aD vD0 c0_1 c0_2 vD3 vD4 vD5 vD6 vD7 vD8 vD9 vD10 vD11 vD12 vD13 vD14 vD15 vD16 vD17 vD18 vD19 vD20 vD21 vD22) → va_S A s.heap H locs → lv_has ls 2 [(0, .ref aD.1), (1, .int y1)] → W p l e ({ frames := 0, cells := 0, slots := 0, locals := 0 } : Room) s m ([.ref aD.1] : List Value).toArray below meth c H locs 0 0 (MQ below (va_Qv (fun (_ : Unit) => True) (fun _ => kPost D (wMD cC cI aD vD0 q.1 q.2 vD3 vD4 vD5 vD6 vD7 vD8 vD9 vD10 vD11 vD12 vD13 vD14 vD15 vD16 vD17 vD18 vD19 vD20 vD21 vD22) A) A) ([.ref aD.1] : List Value).toArray s 0 0 A) (F0 m 20 ls []) := by
    clear h hP hD hS hl
    intro nL20
    induction nL20 with
    | zero => intro c0_1 c0_2 y1 H locs ls h; have h : (none : Option ((Nat → Int32) × Int32)) = some q := h; cases h
    | succ nL20 ihL20 =>
      intro c0_1 c0_2 y1 H locs ls h hP hD hS hl
      have h : pX10_record_bL20 vD0 (pX10_record_L20 vD0 nL20) c0_1 c0_2 y1 = some q := h
      unfold pX10_record_bL20 at h
      refine lv_iload_n hx hb dX10_record_20 rfl (lv_at hl 1 rfl) ?_
      refine lv_sipush (v := (605 : Int32)) hx hb dX10_record_21 (by decide) ?_
      refine lv_aload_n hx hb dX10_record_24 rfl (lv_at hl 0 rfl) ?_
      refine va_get (D := D) (ci := 10) (v := .int c0_2) (C := RX10) (T := TX10) (N := 23) hx hb hts huX10 hown hK hP 0 rfl rfl 2 (by decide) (hts (.fieldLink RX10 64 "VerseColumnsModel" "kept" "I") (by decide +kernel)) (fun _ h9 => h9) rfl dX10_record_25 ?_
      refine lv_imul hx hb dX10_record_28 ?_
      refine lv_icmp_ge (tgt := 54) hx hb dX10_record_29 (by decide) (fun g => ?_) (fun g => ?_)
      · rw [if_pos g] at h
        exact j54 c0_1 c0_2 _ _ _ h hP hD hS (lv_sub hl [0] rfl)
      · rw [if_neg g] at h
        refine lv_aload_n hx hb dX10_record_32 rfl (lv_at hl 0 rfl) ?_
        refine va_get (D := D) (ci := 10) (v := .ref aD.2.2.1) (C := RX10) (T := TX10) (N := 23) hx hb hts huX10 hown hK hP 0 rfl rfl 1 (by decide) (hts (.fieldLink RX10 13 "VerseColumnsModel" "history" "[I") (by decide +kernel)) (fun _ h9 => h9) rfl dX10_record_33 ?_
        refine lv_iload_n hx hb dX10_record_36 rfl (lv_at hl 1 rfl) ?_
        refine lv_aload_n hx hb dX10_record_37 rfl (lv_at hl 0 rfl) ?_
        refine va_get (D := D) (ci := 10) (v := .ref aD.2.2.1) (C := RX10) (T := TX10) (N := 23) hx hb hts huX10 hown hK hP 0 rfl rfl 1 (by decide) (hts (.fieldLink RX10 13 "VerseColumnsModel" "history" "[I") (by decide +kernel)) (fun _ h9 => h9) rfl dX10_record_38 ?_
        refine lv_iload_n hx hb dX10_record_41 rfl (lv_at hl 1 rfl) ?_
        refine lv_sipush (v := (605 : Int32)) hx hb dX10_record_42 (by decide) ?_
        refine lv_iadd hx hb dX10_record_45 ?_
        obtain ⟨g, h⟩ := kif h
        refine va_iald hx hb hK hP 2 0 rfl rfl (kin g) dX10_record_46 ?_
        obtain ⟨g, h⟩ := kif h
        refine va_iast hx hb hK hP hD hS 2 0 rfl rfl (kin g) dX10_record_47 (fun H locs hP hD hS => ?_)
        have hP : va_P D vwCl (wMD cC cI aD vD0 (upd c0_1 y1.toNatClampNeg (c0_1 (y1 + (605 : Int32)).toNatClampNeg)) c0_2 vD3 vD4 vD5 vD6 vD7 vD8 vD9 vD10 vD11 vD12 vD13 vD14 vD15 vD16 vD17 vD18 vD19 vD20 vD21 vD22) H := hP
        have hD : va_D A (wMD cC cI aD vD0 (upd c0_1 y1.toNatClampNeg (c0_1 (y1 + (605 : Int32)).toNatClampNeg)) c0_2 vD3 vD4 vD5 vD6 vD7 vD8 vD9 vD10 vD11 vD12 vD13 vD14 vD15 vD16 vD17 vD18 vD19 vD20 vD21 vD22) := hD
        refine lv_iinc (v := (y1 + (1 : Int32))) (lv' := [(1, .int (y1 + (1 : Int32))), (0, .ref aD.1)]) hx hb dX10_record_48 hl (k := 1) rfl rfl (by decide) rfl (fun ls hl => ?_)
        refine lv_goto (tgt := 20) hx hb dX10_record_51 (by decide) ?_
        exact ihL20 (upd c0_1 y1.toNatClampNeg (c0_1 (y1 + (605 : Int32)).toNatClampNeg)) c0_2 (y1 + (1 : Int32)) _ _ _ h hP hD hS (lv_sub hl [1, 0] rfl)
  unfold pX10_record at h
  refine lv_aload_n hx hb dX10_record_0 rfl (lv_at hl 0 rfl) ?_
  refine va_get (D := D) (ci := 10) (v := .int vD2) (C := RX10) (T := TX10) (N := 23) hx hb hts huX10 hown hK hP 0 rfl rfl 2 (by decide) (hts (.fieldLink RX10 64 "VerseColumnsModel" "kept" "I") (by decide +kernel)) (fun _ h9 => h9) rfl dX10_record_1 ?_
  refine lv_iconst (v := (5 : Int32)) hx hb dX10_record_4 (by decide) ?_
  refine lv_icmp_ne (tgt := 54) hx hb dX10_record_5 (by decide) (fun g => ?_) (fun g => ?_)
  · rw [if_neg g] at h
    exact j54 vD1 vD2 _ _ _ h hP hD hS (lv_sub hl [0] rfl)
  · rw [if_pos g] at h
    refine lv_aload_n hx hb dX10_record_8 rfl (lv_at hl 0 rfl) ?_
    refine lv_dup hx hb dX10_record_9 rfl ?_
    refine va_get (D := D) (ci := 10) (v := .int vD2) (C := RX10) (T := TX10) (N := 23) hx hb hts huX10 hown hK hP 0 rfl rfl 2 (by decide) (hts (.fieldLink RX10 64 "VerseColumnsModel" "kept" "I") (by decide +kernel)) (fun _ h9 => h9) rfl dX10_record_10 ?_
    refine lv_iconst (v := (1 : Int32)) hx hb dX10_record_13 (by decide) ?_
    refine lv_isub hx hb dX10_record_14 ?_
    refine va_put (D := D) (ci := 10) (v := .int (vD2 - (1 : Int32))) (ty := .int) (C := RX10) (T := TX10) (N := 23) hx hb hts huX10 tyX10 tyX10_ok nmX10 hown hK hP hD hS 0 rfl rfl 2 (by decide) (hts (.fieldLink RX10 64 "VerseColumnsModel" "kept" "I") (by decide +kernel)) (fun _ h9 => h9) rfl (by decide +kernel) rfl rfl (Nat.le_of_ble_eq_true rfl) dX10_record_15 (fun H locs hP hD hS => ?_)
    have hP : va_P D vwCl (wMD cC cI aD vD0 vD1 (vD2 - (1 : Int32)) vD3 vD4 vD5 vD6 vD7 vD8 vD9 vD10 vD11 vD12 vD13 vD14 vD15 vD16 vD17 vD18 vD19 vD20 vD21 vD22) H := hP
    have hD : va_D A (wMD cC cI aD vD0 vD1 (vD2 - (1 : Int32)) vD3 vD4 vD5 vD6 vD7 vD8 vD9 vD10 vD11 vD12 vD13 vD14 vD15 vD16 vD17 vD18 vD19 vD20 vD21 vD22) := hD
    refine lv_iconst (v := (0 : Int32)) hx hb dX10_record_18 (by decide) ?_
    refine lv_istore_n (lv' := [(1, .int (0 : Int32)), (0, .ref aD.1)]) hx hb dX10_record_19 rfl hl (by decide) rfl (fun ls hl => ?_)
    exact L20 4000 vD1 (vD2 - (1 : Int32)) (0 : Int32) _ _ _ h hP hD hS (lv_sub hl [1, 0] rfl)
set_option maxHeartbeats 8000000 in
set_option maxRecDepth 100000 in
theorem kX10_undo (l : Launch) (D : va_G) (cI cC cS : ClassId) (aD : Nat × Nat × Nat × Nat × Nat × Nat × Nat × Nat × Nat × Nat × Nat) (vD0 : (Nat → Int32)) (vD1 : (Nat → Int32)) (vD2 : Int32) (vD3 : Int32) (vD4 : (Nat → Int32)) (vD5 : Int32) (vD6 : Int32) (vD7 : Int32) (vD8 : Int32) (vD9 : Int32) (vD10 : Int32) (vD11 : (Nat → Int32)) (vD12 : (Nat → Int32)) (vD13 : Int32) (vD14 : Int32) (vD15 : (Nat → Int32)) (vD16 : Int32) (vD17 : Int32) (vD18 : Int32) (vD19 : (Nat → Int32)) (vD20 : (Nat → Int32)) (vD21 : (Nat → Int32)) (vD22 : (Nat → Int32)) (sz : Nat) {q : Int32 × (Nat → Int32) × Int32} (h : pX10_undo vD0 vD1 vD2 = some q) : kMi l yX10_undo wsX10_undo ({ frames := 0, cells := 0, slots := 0, locals := 0 } : Room) D (kTy cI cC cS) [.ref aD.1] (wMD cC cI aD vD0 vD1 vD2 vD3 vD4 vD5 vD6 vD7 vD8 vD9 vD10 vD11 vD12 vD13 vD14 vD15 vD16 vD17 vD18 vD19 vD20 vD21 vD22) sz q.1 (wMD cC cI aD q.2.1 vD1 q.2.2 vD3 vD4 vD5 vD6 vD7 vD8 vD9 vD10 vD11 vD12 vD13 vD14 vD15 vD16 vD17 vD18 vD19 vD20 vD21 vD22) := by
  refine Met.ofW (cc := cX10_undo) (maxL := 2) (ret := (some .int)) (by decide) rfl ?_
  intro p e s m args below meth c s₁ B hml hv
  obtain ⟨rfl, hsz, hP, hK, hD0, hN⟩ := hv
  have hx := B.exec
  have hb := B.bytes
  have hr := B.returns
  have hts := atoms_spec (ws := wsX10_undo) B.pre
  have hown : s.vm.findClass RX10 = some m.cls := findClass_of_methodNamed B.named
  have hlocks := B.notSynchronized
  subst hsz
  have hD := hD0.self (sz := s.heap.size)
  generalize hAe : va_A (wMD cC cI aD vD0 vD1 vD2 vD3 vD4 vD5 vD6 vD7 vD8 vD9 vD10 vD11 vD12 vD13 vD14 vD15 vD16 vD17 vD18 vD19 vD20 vD21 vD22) s.heap.size = A at hD ⊢
  have hA : ∀ q : Nat, s.heap.size ≤ q → A q := fun q h => by rw [← hAe]; exact Or.inr h
  have hS : va_S A s.heap s.heap [] := va_S.rf
  have huX10 : ∀ w ∈ u_ws RX10 TX10 23, w ∈ wsX10_undo := by decide +kernel
  have hl := lv_entry ([.ref aD.1]) (n := 2) (Nat.le_of_ble_eq_true rfl)
  rw [lg_entry_eq]
  generalize (lg_sl ([.ref aD.1]) ++ List.replicate (2 - (lg_sl ([.ref aD.1])).length) Slot.unset).toArray = ls at hl ⊢
  have hl : lv_has ls 2 [(0, .ref aD.1)] := hl
  have L22 : ∀ (nL22 : Nat) (c0_0 : (Nat → Int32)) (c0_2 : Int32) (y1 : Int32) (H : Heap) (locs : List Loc) (ls : Array Slot), pX10_undo_L22 vD1 nL22 c0_0 c0_2 y1 = some q → va_P D vwCl (wMD cC cI aD c0_0 vD1 c0_2 vD3 vD4 vD5 vD6 vD7 vD8 vD9 vD10 vD11 vD12 vD13 vD14 vD15 vD16 vD17 vD18 vD19 vD20 vD21 vD22) H → va_D A (wMD cC cI aD c0_0 vD1 c0_2 vD3 vD4 vD5 vD6 vD7 vD8 vD9 vD10 vD11 vD12 vD13 vD14 vD15 vD16 vD17 vD18 vD19 vD20 vD21 vD22) → va_S A s.heap H locs → lv_has ls 2 [(0, .ref aD.1), (1, .int y1)] → W p l e ({ frames := 0, cells := 0, slots := 0, locals := 0 } : Room) s m ([.ref aD.1] : List Value).toArray below meth c H locs 0 0 (MQ below (va_Qi (fun (r : Int32) (_ : Unit) => r = q.1) (fun _ => kPost D (wMD cC cI aD q.2.1 vD1 q.2.2 vD3 vD4 vD5 vD6 vD7 vD8 vD9 vD10 vD11 vD12 vD13 vD14 vD15 vD16 vD17 vD18 vD19 vD20 vD21 vD22) A) A) ([.ref aD.1] : List Value).toArray s 0 0 A) (F0 m 22 ls []) := by
    clear h hP hD hS hl
    intro nL22
    induction nL22 with
    | zero => intro c0_0 c0_2 y1 H locs ls h; have h : (none : Option (Int32 × (Nat → Int32) × Int32)) = some q := h; cases h
    | succ nL22 ihL22 =>
      intro c0_0 c0_2 y1 H locs ls h hP hD hS hl
      have h : pX10_undo_bL22 vD1 (pX10_undo_L22 vD1 nL22) c0_0 c0_2 y1 = some q := h
      unfold pX10_undo_bL22 at h
      refine lv_iload_n hx hb dX10_undo_22 rfl (lv_at hl 1 rfl) ?_
      refine lv_sipush (v := (605 : Int32)) hx hb dX10_undo_23 (by decide) ?_
      refine lv_icmp_ge (tgt := 56) hx hb dX10_undo_26 (by decide) (fun g => ?_) (fun g => ?_)
      · rw [if_pos g] at h
        refine lv_aload_n hx hb dX10_undo_56 rfl (lv_at hl 0 rfl) ?_
        refine va_get (D := D) (ci := 10) (v := .int c0_2) (C := RX10) (T := TX10) (N := 23) hx hb hts huX10 hown hK hP 0 rfl rfl 2 (by decide) (hts (.fieldLink RX10 64 "VerseColumnsModel" "kept" "I") (by decide +kernel)) (fun _ h9 => h9) rfl dX10_undo_57 ?_
        obtain rfl := Option.some.inj h
        exact W.iret (v := c0_2) hx hb hr (fun t ht hW => ⟨⟨_, (), rfl, rfl, by rw [ht]; exact hP, hD⟩, hS.F ht⟩) hS.2.2 dX10_undo_60
      · rw [if_neg g] at h
        refine lv_aload_n hx hb dX10_undo_29 rfl (lv_at hl 0 rfl) ?_
        refine va_get (D := D) (ci := 10) (v := .ref aD.2.1) (C := RX10) (T := TX10) (N := 23) hx hb hts huX10 hown hK hP 0 rfl rfl 0 (by decide) (hts (.fieldLink RX10 7 "VerseColumnsModel" "row" "[I") (by decide +kernel)) (fun _ h9 => h9) rfl dX10_undo_30 ?_
        refine lv_iload_n hx hb dX10_undo_33 rfl (lv_at hl 1 rfl) ?_
        refine lv_aload_n hx hb dX10_undo_34 rfl (lv_at hl 0 rfl) ?_
        refine va_get (D := D) (ci := 10) (v := .ref aD.2.2.1) (C := RX10) (T := TX10) (N := 23) hx hb hts huX10 hown hK hP 0 rfl rfl 1 (by decide) (hts (.fieldLink RX10 13 "VerseColumnsModel" "history" "[I") (by decide +kernel)) (fun _ h9 => h9) rfl dX10_undo_35 ?_
        refine lv_sipush (v := (605 : Int32)) hx hb dX10_undo_38 (by decide) ?_
        refine lv_aload_n hx hb dX10_undo_41 rfl (lv_at hl 0 rfl) ?_
        refine va_get (D := D) (ci := 10) (v := .int c0_2) (C := RX10) (T := TX10) (N := 23) hx hb hts huX10 hown hK hP 0 rfl rfl 2 (by decide) (hts (.fieldLink RX10 64 "VerseColumnsModel" "kept" "I") (by decide +kernel)) (fun _ h9 => h9) rfl dX10_undo_42 ?_
        refine lv_imul hx hb dX10_undo_45 ?_
        refine lv_iload_n hx hb dX10_undo_46 rfl (lv_at hl 1 rfl) ?_
        refine lv_iadd hx hb dX10_undo_47 ?_
        obtain ⟨g, h⟩ := kif h
        refine va_iald hx hb hK hP 2 0 rfl rfl (kin g) dX10_undo_48 ?_
        obtain ⟨g, h⟩ := kif h
        refine va_iast hx hb hK hP hD hS 1 0 rfl rfl (kin g) dX10_undo_49 (fun H locs hP hD hS => ?_)
        have hP : va_P D vwCl (wMD cC cI aD (upd c0_0 y1.toNatClampNeg (vD1 (((605 : Int32) * c0_2) + y1).toNatClampNeg)) vD1 c0_2 vD3 vD4 vD5 vD6 vD7 vD8 vD9 vD10 vD11 vD12 vD13 vD14 vD15 vD16 vD17 vD18 vD19 vD20 vD21 vD22) H := hP
        have hD : va_D A (wMD cC cI aD (upd c0_0 y1.toNatClampNeg (vD1 (((605 : Int32) * c0_2) + y1).toNatClampNeg)) vD1 c0_2 vD3 vD4 vD5 vD6 vD7 vD8 vD9 vD10 vD11 vD12 vD13 vD14 vD15 vD16 vD17 vD18 vD19 vD20 vD21 vD22) := hD
        refine lv_iinc (v := (y1 + (1 : Int32))) (lv' := [(1, .int (y1 + (1 : Int32))), (0, .ref aD.1)]) hx hb dX10_undo_50 hl (k := 1) rfl rfl (by decide) rfl (fun ls hl => ?_)
        refine lv_goto (tgt := 22) hx hb dX10_undo_53 (by decide) ?_
        exact ihL22 (upd c0_0 y1.toNatClampNeg (vD1 (((605 : Int32) * c0_2) + y1).toNatClampNeg)) c0_2 (y1 + (1 : Int32)) _ _ _ h hP hD hS (lv_sub hl [1, 0] rfl)
  unfold pX10_undo at h
  refine lv_aload_n hx hb dX10_undo_0 rfl (lv_at hl 0 rfl) ?_
  refine va_get (D := D) (ci := 10) (v := .int vD2) (C := RX10) (T := TX10) (N := 23) hx hb hts huX10 hown hK hP 0 rfl rfl 2 (by decide) (hts (.fieldLink RX10 64 "VerseColumnsModel" "kept" "I") (by decide +kernel)) (fun _ h9 => h9) rfl dX10_undo_1 ?_
  refine lv_if_ne (tgt := 10) hx hb dX10_undo_4 (by decide) (fun g => ?_) (fun g => ?_)
  · rw [if_neg g] at h
    refine lv_aload_n hx hb dX10_undo_10 rfl (lv_at hl 0 rfl) ?_
    refine lv_dup hx hb dX10_undo_11 rfl ?_
    refine va_get (D := D) (ci := 10) (v := .int vD2) (C := RX10) (T := TX10) (N := 23) hx hb hts huX10 hown hK hP 0 rfl rfl 2 (by decide) (hts (.fieldLink RX10 64 "VerseColumnsModel" "kept" "I") (by decide +kernel)) (fun _ h9 => h9) rfl dX10_undo_12 ?_
    refine lv_iconst (v := (1 : Int32)) hx hb dX10_undo_15 (by decide) ?_
    refine lv_isub hx hb dX10_undo_16 ?_
    refine va_put (D := D) (ci := 10) (v := .int (vD2 - (1 : Int32))) (ty := .int) (C := RX10) (T := TX10) (N := 23) hx hb hts huX10 tyX10 tyX10_ok nmX10 hown hK hP hD hS 0 rfl rfl 2 (by decide) (hts (.fieldLink RX10 64 "VerseColumnsModel" "kept" "I") (by decide +kernel)) (fun _ h9 => h9) rfl (by decide +kernel) rfl rfl (Nat.le_of_ble_eq_true rfl) dX10_undo_17 (fun H locs hP hD hS => ?_)
    have hP : va_P D vwCl (wMD cC cI aD vD0 vD1 (vD2 - (1 : Int32)) vD3 vD4 vD5 vD6 vD7 vD8 vD9 vD10 vD11 vD12 vD13 vD14 vD15 vD16 vD17 vD18 vD19 vD20 vD21 vD22) H := hP
    have hD : va_D A (wMD cC cI aD vD0 vD1 (vD2 - (1 : Int32)) vD3 vD4 vD5 vD6 vD7 vD8 vD9 vD10 vD11 vD12 vD13 vD14 vD15 vD16 vD17 vD18 vD19 vD20 vD21 vD22) := hD
    refine lv_iconst (v := (0 : Int32)) hx hb dX10_undo_20 (by decide) ?_
    refine lv_istore_n (lv' := [(1, .int (0 : Int32)), (0, .ref aD.1)]) hx hb dX10_undo_21 rfl hl (by decide) rfl (fun ls hl => ?_)
    exact L22 4000 vD0 (vD2 - (1 : Int32)) (0 : Int32) _ _ _ h hP hD hS (lv_sub hl [1, 0] rfl)
  · rw [if_pos g] at h
    refine lv_bipush (v := (-5 : Int32)) hx hb dX10_undo_7 (by decide) ?_
    obtain rfl := Option.some.inj h
    exact W.iret (v := (-5 : Int32)) hx hb hr (fun t ht hW => ⟨⟨_, (), rfl, rfl, by rw [ht]; exact hP, hD⟩, hS.F ht⟩) hS.2.2 dX10_undo_9
set_option maxHeartbeats 8000000 in
set_option maxRecDepth 100000 in
theorem kX10_addGroup (l : Launch) (D : va_G) (cI cC cS : ClassId) (aD : Nat × Nat × Nat × Nat × Nat × Nat × Nat × Nat × Nat × Nat × Nat) (vD0 : (Nat → Int32)) (vD1 : (Nat → Int32)) (vD2 : Int32) (vD3 : Int32) (vD4 : (Nat → Int32)) (vD5 : Int32) (vD6 : Int32) (vD7 : Int32) (vD8 : Int32) (vD9 : Int32) (vD10 : Int32) (vD11 : (Nat → Int32)) (vD12 : (Nat → Int32)) (vD13 : Int32) (vD14 : Int32) (vD15 : (Nat → Int32)) (vD16 : Int32) (vD17 : Int32) (vD18 : Int32) (vD19 : (Nat → Int32)) (vD20 : (Nat → Int32)) (vD21 : (Nat → Int32)) (vD22 : (Nat → Int32)) (i1 : Int32) (i2 : Int32) (sz : Nat) {q : (Nat → Int32)} (h : pX10_addGroup vD0 i1 i2 = some q) : kMv l yX10_addGroup wsX10_addGroup ({ frames := 1, cells := 0, slots := 0, locals := 20 } : Room) D (kTy cI cC cS) [.ref aD.1, .int i1, .int i2] (wMD cC cI aD vD0 vD1 vD2 vD3 vD4 vD5 vD6 vD7 vD8 vD9 vD10 vD11 vD12 vD13 vD14 vD15 vD16 vD17 vD18 vD19 vD20 vD21 vD22) sz (wMD cC cI aD q vD1 vD2 vD3 vD4 vD5 vD6 vD7 vD8 vD9 vD10 vD11 vD12 vD13 vD14 vD15 vD16 vD17 vD18 vD19 vD20 vD21 vD22) := by
  refine Met.ofW (cc := cX10_addGroup) (maxL := 3) (ret := none) (by decide) rfl ?_
  intro p e s m args below meth c s₁ B hml hv
  obtain ⟨rfl, hsz, hP, hK, hD0, hN⟩ := hv
  have hx := B.exec
  have hb := B.bytes
  have hr := B.returns
  have hts := atoms_spec (ws := wsX10_addGroup) B.pre
  have hown : s.vm.findClass RX10 = some m.cls := findClass_of_methodNamed B.named
  have hlocks := B.notSynchronized
  subst hsz
  have hD := hD0.self (sz := s.heap.size)
  generalize hAe : va_A (wMD cC cI aD vD0 vD1 vD2 vD3 vD4 vD5 vD6 vD7 vD8 vD9 vD10 vD11 vD12 vD13 vD14 vD15 vD16 vD17 vD18 vD19 vD20 vD21 vD22) s.heap.size = A at hD ⊢
  have hA : ∀ q : Nat, s.heap.size ≤ q → A q := fun q h => by rw [← hAe]; exact Or.inr h
  have hS : va_S A s.heap s.heap [] := va_S.rf
  have huX10 : ∀ w ∈ u_ws RX10 TX10 23, w ∈ wsX10_addGroup := by decide +kernel
  have hl := lv_entry ([.ref aD.1, .int i1, .int i2]) (n := 3) (Nat.le_of_ble_eq_true rfl)
  rw [lg_entry_eq]
  generalize (lg_sl ([.ref aD.1, .int i1, .int i2]) ++ List.replicate (3 - (lg_sl ([.ref aD.1, .int i1, .int i2])).length) Slot.unset).toArray = ls at hl ⊢
  have hl : lv_has ls 3 [(0, .ref aD.1), (1, .int i1), (2, .int i2)] := hl
  unfold pX10_addGroup at h
  refine lv_aload_n hx hb dX10_addGroup_0 rfl (lv_at hl 0 rfl) ?_
  refine va_get (D := D) (ci := 10) (v := .ref aD.2.1) (C := RX10) (T := TX10) (N := 23) hx hb hts huX10 hown hK hP 0 rfl rfl 0 (by decide) (hts (.fieldLink RX10 7 "VerseColumnsModel" "row" "[I") (by decide +kernel)) (fun _ h9 => h9) rfl dX10_addGroup_1 ?_
  refine lv_sipush (v := (365 : Int32)) hx hb dX10_addGroup_4 (by decide) ?_
  refine lv_aload_n hx hb dX10_addGroup_7 rfl (lv_at hl 0 rfl) ?_
  obtain ⟨q2, h1, h⟩ := Option.bind_eq_some_iff.mp h
  refine kcir [0, 1, 2, 3, 4, 5, 6, 7, 8, 9, 10] (va_runV (As := []) (rest := [.int (365 : Int32), .ref aD.2.1]) ⟨hx, hb, hml, hown, hts⟩ (kX10_groups l D cI cC cS aD vD0 vD1 vD2 vD3 vD4 vD5 vD6 vD7 vD8 vD9 vD10 vD11 vD12 vD13 vD14 vD15 vD16 vD17 vD18 vD19 vD20 vD21 vD22 s.heap.size h1) (cwV 0 hts gX10_addGroup_X10_groups rfl rfl rfl (by decide +kernel) ⟨Nat.le_of_ble_eq_true rfl, Nat.le_of_ble_eq_true rfl⟩) (kpreV hK hN hP hD [0, 1, 2, 3, 4, 5, 6, 7, 8, 9, 10] rfl (by decide) 10 rfl rfl) rfl rfl hl.1 rfl (lv_room (Nat.le_of_ble_eq_true rfl)) dX10_addGroup_8 ⟨Nat.le_refl _, Nat.le_refl _⟩) hP hD hS hA rfl (fun H locs hP hS => ?_)
  refine lv_iadd hx hb dX10_addGroup_11 ?_
  refine lv_iload_n hx hb dX10_addGroup_12 rfl (lv_at hl 1 rfl) ?_
  obtain ⟨g, h⟩ := kif h
  refine va_iast hx hb hK hP hD hS 1 0 rfl rfl (kin g) dX10_addGroup_13 (fun H locs hP hD hS => ?_)
  have hP : va_P D vwCl (wMD cC cI aD (upd vD0 ((365 : Int32) + q2).toNatClampNeg i1) vD1 vD2 vD3 vD4 vD5 vD6 vD7 vD8 vD9 vD10 vD11 vD12 vD13 vD14 vD15 vD16 vD17 vD18 vD19 vD20 vD21 vD22) H := hP
  have hD : va_D A (wMD cC cI aD (upd vD0 ((365 : Int32) + q2).toNatClampNeg i1) vD1 vD2 vD3 vD4 vD5 vD6 vD7 vD8 vD9 vD10 vD11 vD12 vD13 vD14 vD15 vD16 vD17 vD18 vD19 vD20 vD21 vD22) := hD
  refine lv_aload_n hx hb dX10_addGroup_14 rfl (lv_at hl 0 rfl) ?_
  refine va_get (D := D) (ci := 10) (v := .ref aD.2.1) (C := RX10) (T := TX10) (N := 23) hx hb hts huX10 hown hK hP 0 rfl rfl 0 (by decide) (hts (.fieldLink RX10 7 "VerseColumnsModel" "row" "[I") (by decide +kernel)) (fun _ h9 => h9) rfl dX10_addGroup_15 ?_
  refine lv_sipush (v := (485 : Int32)) hx hb dX10_addGroup_18 (by decide) ?_
  refine lv_aload_n hx hb dX10_addGroup_21 rfl (lv_at hl 0 rfl) ?_
  obtain ⟨q4, h3, h⟩ := Option.bind_eq_some_iff.mp h
  refine kcir [0, 1, 2, 3, 4, 5, 6, 7, 8, 9, 10] (va_runV (As := []) (rest := [.int (485 : Int32), .ref aD.2.1]) ⟨hx, hb, hml, hown, hts⟩ (kX10_groups l D cI cC cS aD (upd vD0 ((365 : Int32) + q2).toNatClampNeg i1) vD1 vD2 vD3 vD4 vD5 vD6 vD7 vD8 vD9 vD10 vD11 vD12 vD13 vD14 vD15 vD16 vD17 vD18 vD19 vD20 vD21 vD22 H.size h3) (cwV 0 hts gX10_addGroup_X10_groups rfl rfl rfl (by decide +kernel) ⟨Nat.le_of_ble_eq_true rfl, Nat.le_of_ble_eq_true rfl⟩) (kpreV hK hN hP hD [0, 1, 2, 3, 4, 5, 6, 7, 8, 9, 10] rfl (by decide) 10 rfl rfl) rfl rfl hl.1 rfl (lv_room (Nat.le_of_ble_eq_true rfl)) dX10_addGroup_22 ⟨Nat.le_refl _, Nat.le_refl _⟩) hP hD hS hA rfl (fun H locs hP hS => ?_)
  refine lv_iadd hx hb dX10_addGroup_25 ?_
  refine lv_iload_n hx hb dX10_addGroup_26 rfl (lv_at hl 2 rfl) ?_
  obtain ⟨g, h⟩ := kif h
  refine va_iast hx hb hK hP hD hS 1 0 rfl rfl (kin g) dX10_addGroup_27 (fun H locs hP hD hS => ?_)
  have hP : va_P D vwCl (wMD cC cI aD (upd (upd vD0 ((365 : Int32) + q2).toNatClampNeg i1) ((485 : Int32) + q4).toNatClampNeg i2) vD1 vD2 vD3 vD4 vD5 vD6 vD7 vD8 vD9 vD10 vD11 vD12 vD13 vD14 vD15 vD16 vD17 vD18 vD19 vD20 vD21 vD22) H := hP
  have hD : va_D A (wMD cC cI aD (upd (upd vD0 ((365 : Int32) + q2).toNatClampNeg i1) ((485 : Int32) + q4).toNatClampNeg i2) vD1 vD2 vD3 vD4 vD5 vD6 vD7 vD8 vD9 vD10 vD11 vD12 vD13 vD14 vD15 vD16 vD17 vD18 vD19 vD20 vD21 vD22) := hD
  refine lv_aload_n hx hb dX10_addGroup_28 rfl (lv_at hl 0 rfl) ?_
  refine va_get (D := D) (ci := 10) (v := .ref aD.2.1) (C := RX10) (T := TX10) (N := 23) hx hb hts huX10 hown hK hP 0 rfl rfl 0 (by decide) (hts (.fieldLink RX10 7 "VerseColumnsModel" "row" "[I") (by decide +kernel)) (fun _ h9 => h9) rfl dX10_addGroup_29 ?_
  refine lv_sipush (v := (364 : Int32)) hx hb dX10_addGroup_32 (by decide) ?_
  refine lv_dup2_11 hx hb dX10_addGroup_35 rfl rfl ?_
  obtain ⟨g, h⟩ := kif h
  refine va_iald hx hb hK hP 1 0 rfl rfl (kin g) dX10_addGroup_36 ?_
  refine lv_iconst (v := (1 : Int32)) hx hb dX10_addGroup_37 (by decide) ?_
  refine lv_iadd hx hb dX10_addGroup_38 ?_
  obtain ⟨g, h⟩ := kif h
  refine va_iast hx hb hK hP hD hS 1 0 rfl rfl (kin g) dX10_addGroup_39 (fun H locs hP hD hS => ?_)
  have hP : va_P D vwCl (wMD cC cI aD (upd (upd (upd vD0 ((365 : Int32) + q2).toNatClampNeg i1) ((485 : Int32) + q4).toNatClampNeg i2) (364 : Int32).toNatClampNeg (((upd (upd vD0 ((365 : Int32) + q2).toNatClampNeg i1) ((485 : Int32) + q4).toNatClampNeg i2) (364 : Int32).toNatClampNeg) + (1 : Int32))) vD1 vD2 vD3 vD4 vD5 vD6 vD7 vD8 vD9 vD10 vD11 vD12 vD13 vD14 vD15 vD16 vD17 vD18 vD19 vD20 vD21 vD22) H := hP
  have hD : va_D A (wMD cC cI aD (upd (upd (upd vD0 ((365 : Int32) + q2).toNatClampNeg i1) ((485 : Int32) + q4).toNatClampNeg i2) (364 : Int32).toNatClampNeg (((upd (upd vD0 ((365 : Int32) + q2).toNatClampNeg i1) ((485 : Int32) + q4).toNatClampNeg i2) (364 : Int32).toNatClampNeg) + (1 : Int32))) vD1 vD2 vD3 vD4 vD5 vD6 vD7 vD8 vD9 vD10 vD11 vD12 vD13 vD14 vD15 vD16 vD17 vD18 vD19 vD20 vD21 vD22) := hD
  obtain rfl := Option.some.inj h
  exact W.vret hx hb hr (fun t ht hW => ⟨⟨(), rfl, trivial, by rw [ht]; exact hP, hD⟩, hS.F ht⟩) hS.2.2 dX10_addGroup_40
