-- walks: stat (printed by wip/whole/gen)
set_option maxHeartbeats 8000000 in
set_option maxRecDepth 100000 in
theorem kX9_isBook (l : Launch) (D : va_G) (cI cC cS : ClassId) (i1 : Int32) (sz : Nat) {q : Int32} (h : pX9_isBook i1 = some q) : kMi l yX9_isBook wsX9_isBook ({ frames := 0, cells := 0, slots := 0, locals := 0 } : Room) D (kTy cI cC cS) [.int i1] ([] : va_W) sz q ([] : va_W) := by
  refine Met.ofW (cc := cX9_isBook) (maxL := 1) (ret := (some .boolean)) (by decide) rfl ?_
  intro p e s m args below meth c s₁ B hml hv
  obtain ⟨rfl, hsz, hP, hK, hD0, hN⟩ := hv
  have hx := B.exec
  have hb := B.bytes
  have hr := B.returns
  have hts := atoms_spec (ws := wsX9_isBook) B.pre
  have hown : s.vm.findClass RX9 = some m.cls := findClass_of_methodNamed B.named
  have hlocks := B.notSynchronized
  subst hsz
  have hD := hD0.self (sz := s.heap.size)
  generalize hAe : va_A ([] : va_W) s.heap.size = A at hD ⊢
  have hA : ∀ q : Nat, s.heap.size ≤ q → A q := fun q h => by rw [← hAe]; exact Or.inr h
  have hS : va_S A s.heap s.heap [] := va_S.rf
  have hl := lv_entry ([.int i1]) (n := 1) (Nat.le_of_ble_eq_true rfl)
  rw [lg_entry_eq]
  generalize (lg_sl ([.int i1]) ++ List.replicate (1 - (lg_sl ([.int i1])).length) Slot.unset).toArray = ls at hl ⊢
  have hl : lv_has ls 1 [(0, .int i1)] := hl
  unfold pX9_isBook at h
  refine lv_iload_n hx hb dX9_isBook_0 rfl (lv_at hl 0 rfl) ?_
  refine lv_if_eq (tgt := 9) hx hb dX9_isBook_1 (by decide) (fun g => ?_) (fun g => ?_)
  · rw [if_pos g] at h
    refine lv_iconst (v := (1 : Int32)) hx hb dX9_isBook_9 (by decide) ?_
    refine lv_goto (tgt := 14) hx hb dX9_isBook_10 (by decide) ?_
    obtain rfl := Option.some.inj h
    exact W.zret (v := (1 : Int32)) hx hb hr rfl (fun t ht hW => ⟨⟨_, (), rfl, rfl, by rw [ht]; exact hP, hD⟩, hS.F ht⟩) hS.2.2 dX9_isBook_14
  · rw [if_neg g] at h
    refine lv_iload_n hx hb dX9_isBook_4 rfl (lv_at hl 0 rfl) ?_
    refine lv_iconst (v := (1 : Int32)) hx hb dX9_isBook_5 (by decide) ?_
    refine lv_icmp_ne (tgt := 13) hx hb dX9_isBook_6 (by decide) (fun g => ?_) (fun g => ?_)
    · rw [if_neg g] at h
      refine lv_iconst (v := (0 : Int32)) hx hb dX9_isBook_13 (by decide) ?_
      obtain rfl := Option.some.inj h
      exact W.zret (v := (0 : Int32)) hx hb hr rfl (fun t ht hW => ⟨⟨_, (), rfl, rfl, by rw [ht]; exact hP, hD⟩, hS.F ht⟩) hS.2.2 dX9_isBook_14
    · rw [if_pos g] at h
      refine lv_iconst (v := (1 : Int32)) hx hb dX9_isBook_9 (by decide) ?_
      refine lv_goto (tgt := 14) hx hb dX9_isBook_10 (by decide) ?_
      obtain rfl := Option.some.inj h
      exact W.zret (v := (1 : Int32)) hx hb hr rfl (fun t ht hW => ⟨⟨_, (), rfl, rfl, by rw [ht]; exact hP, hD⟩, hS.F ht⟩) hS.2.2 dX9_isBook_14
set_option maxHeartbeats 8000000 in
set_option maxRecDepth 100000 in
theorem kX9_otherBook (l : Launch) (D : va_G) (cI cC cS : ClassId) (i1 : Int32) (sz : Nat) {q : Int32} (h : pX9_otherBook i1 = some q) : kMi l yX9_otherBook wsX9_otherBook ({ frames := 0, cells := 0, slots := 0, locals := 0 } : Room) D (kTy cI cC cS) [.int i1] ([] : va_W) sz q ([] : va_W) := by
  refine Met.ofW (cc := cX9_otherBook) (maxL := 1) (ret := (some .int)) (by decide) rfl ?_
  intro p e s m args below meth c s₁ B hml hv
  obtain ⟨rfl, hsz, hP, hK, hD0, hN⟩ := hv
  have hx := B.exec
  have hb := B.bytes
  have hr := B.returns
  have hts := atoms_spec (ws := wsX9_otherBook) B.pre
  have hown : s.vm.findClass RX9 = some m.cls := findClass_of_methodNamed B.named
  have hlocks := B.notSynchronized
  subst hsz
  have hD := hD0.self (sz := s.heap.size)
  generalize hAe : va_A ([] : va_W) s.heap.size = A at hD ⊢
  have hA : ∀ q : Nat, s.heap.size ≤ q → A q := fun q h => by rw [← hAe]; exact Or.inr h
  have hS : va_S A s.heap s.heap [] := va_S.rf
  have hl := lv_entry ([.int i1]) (n := 1) (Nat.le_of_ble_eq_true rfl)
  rw [lg_entry_eq]
  generalize (lg_sl ([.int i1]) ++ List.replicate (1 - (lg_sl ([.int i1])).length) Slot.unset).toArray = ls at hl ⊢
  have hl : lv_has ls 1 [(0, .int i1)] := hl
  unfold pX9_otherBook at h
  refine lv_iload_n hx hb dX9_otherBook_0 rfl (lv_at hl 0 rfl) ?_
  refine lv_if_ne (tgt := 8) hx hb dX9_otherBook_1 (by decide) (fun g => ?_) (fun g => ?_)
  · rw [if_neg g] at h
    refine lv_iconst (v := (0 : Int32)) hx hb dX9_otherBook_8 (by decide) ?_
    obtain rfl := Option.some.inj h
    exact W.iret (v := (0 : Int32)) hx hb hr (fun t ht hW => ⟨⟨_, (), rfl, rfl, by rw [ht]; exact hP, hD⟩, hS.F ht⟩) hS.2.2 dX9_otherBook_9
  · rw [if_pos g] at h
    refine lv_iconst (v := (1 : Int32)) hx hb dX9_otherBook_4 (by decide) ?_
    refine lv_goto (tgt := 9) hx hb dX9_otherBook_5 (by decide) ?_
    obtain rfl := Option.some.inj h
    exact W.iret (v := (1 : Int32)) hx hb hr (fun t ht hW => ⟨⟨_, (), rfl, rfl, by rw [ht]; exact hP, hD⟩, hS.F ht⟩) hS.2.2 dX9_otherBook_9
set_option maxHeartbeats 8000000 in
set_option maxRecDepth 100000 in
theorem kX9_isWithin (l : Launch) (D : va_G) (cI cC cS : ClassId) (i1 : Int32) (i2 : Int32) (i3 : Int32) (sz : Nat) {q : Int32} (h : pX9_isWithin i1 i2 i3 = some q) : kMi l yX9_isWithin wsX9_isWithin ({ frames := 0, cells := 0, slots := 0, locals := 0 } : Room) D (kTy cI cC cS) [.int i1, .int i2, .int i3] ([] : va_W) sz q ([] : va_W) := by
  refine Met.ofW (cc := cX9_isWithin) (maxL := 3) (ret := (some .boolean)) (by decide) rfl ?_
  intro p e s m args below meth c s₁ B hml hv
  obtain ⟨rfl, hsz, hP, hK, hD0, hN⟩ := hv
  have hx := B.exec
  have hb := B.bytes
  have hr := B.returns
  have hts := atoms_spec (ws := wsX9_isWithin) B.pre
  have hown : s.vm.findClass RX9 = some m.cls := findClass_of_methodNamed B.named
  have hlocks := B.notSynchronized
  subst hsz
  have hD := hD0.self (sz := s.heap.size)
  generalize hAe : va_A ([] : va_W) s.heap.size = A at hD ⊢
  have hA : ∀ q : Nat, s.heap.size ≤ q → A q := fun q h => by rw [← hAe]; exact Or.inr h
  have hS : va_S A s.heap s.heap [] := va_S.rf
  have hl := lv_entry ([.int i1, .int i2, .int i3]) (n := 3) (Nat.le_of_ble_eq_true rfl)
  rw [lg_entry_eq]
  generalize (lg_sl ([.int i1, .int i2, .int i3]) ++ List.replicate (3 - (lg_sl ([.int i1, .int i2, .int i3])).length) Slot.unset).toArray = ls at hl ⊢
  have hl : lv_has ls 3 [(0, .int i1), (1, .int i2), (2, .int i3)] := hl
  unfold pX9_isWithin at h
  refine lv_iload_n hx hb dX9_isWithin_0 rfl (lv_at hl 0 rfl) ?_
  refine lv_iload_n hx hb dX9_isWithin_1 rfl (lv_at hl 1 rfl) ?_
  refine lv_icmp_lt (tgt := 14) hx hb dX9_isWithin_2 (by decide) (fun g => ?_) (fun g => ?_)
  · rw [if_pos g] at h
    refine lv_iconst (v := (0 : Int32)) hx hb dX9_isWithin_14 (by decide) ?_
    obtain rfl := Option.some.inj h
    exact W.zret (v := (0 : Int32)) hx hb hr rfl (fun t ht hW => ⟨⟨_, (), rfl, rfl, by rw [ht]; exact hP, hD⟩, hS.F ht⟩) hS.2.2 dX9_isWithin_15
  · rw [if_neg g] at h
    refine lv_iload_n hx hb dX9_isWithin_5 rfl (lv_at hl 0 rfl) ?_
    refine lv_iload_n hx hb dX9_isWithin_6 rfl (lv_at hl 2 rfl) ?_
    refine lv_icmp_gt (tgt := 14) hx hb dX9_isWithin_7 (by decide) (fun g => ?_) (fun g => ?_)
    · rw [if_pos g] at h
      refine lv_iconst (v := (0 : Int32)) hx hb dX9_isWithin_14 (by decide) ?_
      obtain rfl := Option.some.inj h
      exact W.zret (v := (0 : Int32)) hx hb hr rfl (fun t ht hW => ⟨⟨_, (), rfl, rfl, by rw [ht]; exact hP, hD⟩, hS.F ht⟩) hS.2.2 dX9_isWithin_15
    · rw [if_neg g] at h
      refine lv_iconst (v := (1 : Int32)) hx hb dX9_isWithin_10 (by decide) ?_
      refine lv_goto (tgt := 15) hx hb dX9_isWithin_11 (by decide) ?_
      obtain rfl := Option.some.inj h
      exact W.zret (v := (1 : Int32)) hx hb hr rfl (fun t ht hW => ⟨⟨_, (), rfl, rfl, by rw [ht]; exact hP, hD⟩, hS.F ht⟩) hS.2.2 dX9_isWithin_15
set_option maxHeartbeats 8000000 in
set_option maxRecDepth 100000 in
theorem kX9_linesFor (l : Launch) (D : va_G) (cI cC cS : ClassId) (i1 : Int32) (i2 : Int32) (sz : Nat) {q : Int32} (h : pX9_linesFor i1 i2 = some q) : kMi l yX9_linesFor wsX9_linesFor ({ frames := 0, cells := 0, slots := 0, locals := 0 } : Room) D (kTy cI cC cS) [.int i1, .int i2] ([] : va_W) sz q ([] : va_W) := by
  refine Met.ofW (cc := cX9_linesFor) (maxL := 2) (ret := (some .int)) (by decide) rfl ?_
  intro p e s m args below meth c s₁ B hml hv
  obtain ⟨rfl, hsz, hP, hK, hD0, hN⟩ := hv
  have hx := B.exec
  have hb := B.bytes
  have hr := B.returns
  have hts := atoms_spec (ws := wsX9_linesFor) B.pre
  have hown : s.vm.findClass RX9 = some m.cls := findClass_of_methodNamed B.named
  have hlocks := B.notSynchronized
  subst hsz
  have hD := hD0.self (sz := s.heap.size)
  generalize hAe : va_A ([] : va_W) s.heap.size = A at hD ⊢
  have hA : ∀ q : Nat, s.heap.size ≤ q → A q := fun q h => by rw [← hAe]; exact Or.inr h
  have hS : va_S A s.heap s.heap [] := va_S.rf
  have hl := lv_entry ([.int i1, .int i2]) (n := 2) (Nat.le_of_ble_eq_true rfl)
  rw [lg_entry_eq]
  generalize (lg_sl ([.int i1, .int i2]) ++ List.replicate (2 - (lg_sl ([.int i1, .int i2])).length) Slot.unset).toArray = ls at hl ⊢
  have hl : lv_has ls 2 [(0, .int i1), (1, .int i2)] := hl
  unfold pX9_linesFor at h
  refine lv_iload_n hx hb dX9_linesFor_0 rfl (lv_at hl 1 rfl) ?_
  refine lv_iconst (v := (1 : Int32)) hx hb dX9_linesFor_1 (by decide) ?_
  refine lv_icmp_ge (tgt := 9) hx hb dX9_linesFor_2 (by decide) (fun g => ?_) (fun g => ?_)
  · rw [if_pos g] at h
    refine lv_iload_n hx hb dX9_linesFor_9 rfl (lv_at hl 0 rfl) ?_
    refine lv_iload_n hx hb dX9_linesFor_10 rfl (lv_at hl 1 rfl) ?_
    refine lv_iadd hx hb dX9_linesFor_11 ?_
    refine lv_iconst (v := (1 : Int32)) hx hb dX9_linesFor_12 (by decide) ?_
    refine lv_isub hx hb dX9_linesFor_13 ?_
    refine lv_iload_n hx hb dX9_linesFor_14 rfl (lv_at hl 1 rfl) ?_
    obtain ⟨g, h⟩ := kif h
    refine lv_idiv hx hb dX9_linesFor_15 g ?_
    obtain rfl := Option.some.inj h
    exact W.iret (v := (((i1 + i2) - (1 : Int32)) / i2)) hx hb hr (fun t ht hW => ⟨⟨_, (), rfl, rfl, by rw [ht]; exact hP, hD⟩, hS.F ht⟩) hS.2.2 dX9_linesFor_16
  · rw [if_neg g] at h
    refine lv_iconst (v := (0 : Int32)) hx hb dX9_linesFor_5 (by decide) ?_
    refine lv_goto (tgt := 16) hx hb dX9_linesFor_6 (by decide) ?_
    obtain rfl := Option.some.inj h
    exact W.iret (v := (0 : Int32)) hx hb hr (fun t ht hW => ⟨⟨_, (), rfl, rfl, by rw [ht]; exact hP, hD⟩, hS.F ht⟩) hS.2.2 dX9_linesFor_16
set_option maxHeartbeats 8000000 in
set_option maxRecDepth 100000 in
theorem kX9_cellOf (l : Launch) (D : va_G) (cI cC cS : ClassId) (aF : Nat) (nF : Nat) (vF0 : (Nat → Int32)) (i2 : Int32) (sz : Nat) {q : Int32} (h : pX9_cellOf nF vF0 i2 = some q) : kMi l yX9_cellOf wsX9_cellOf ({ frames := 0, cells := 0, slots := 0, locals := 0 } : Room) D (kTy cI cC cS) [.ref aF, .int i2] (wAR cI aF nF vF0) sz q (wAR cI aF nF vF0) := by
  refine Met.ofW (cc := cX9_cellOf) (maxL := 2) (ret := (some .int)) (by decide) rfl ?_
  intro p e s m args below meth c s₁ B hml hv
  obtain ⟨rfl, hsz, hP, hK, hD0, hN⟩ := hv
  have hx := B.exec
  have hb := B.bytes
  have hr := B.returns
  have hts := atoms_spec (ws := wsX9_cellOf) B.pre
  have hown : s.vm.findClass RX9 = some m.cls := findClass_of_methodNamed B.named
  have hlocks := B.notSynchronized
  subst hsz
  have hD := hD0.self (sz := s.heap.size)
  generalize hAe : va_A (wAR cI aF nF vF0) s.heap.size = A at hD ⊢
  have hA : ∀ q : Nat, s.heap.size ≤ q → A q := fun q h => by rw [← hAe]; exact Or.inr h
  have hS : va_S A s.heap s.heap [] := va_S.rf
  have hl := lv_entry ([.ref aF, .int i2]) (n := 2) (Nat.le_of_ble_eq_true rfl)
  rw [lg_entry_eq]
  generalize (lg_sl ([.ref aF, .int i2]) ++ List.replicate (2 - (lg_sl ([.ref aF, .int i2])).length) Slot.unset).toArray = ls at hl ⊢
  have hl : lv_has ls 2 [(0, .ref aF), (1, .int i2)] := hl
  unfold pX9_cellOf at h
  refine lv_iload_n hx hb dX9_cellOf_0 rfl (lv_at hl 1 rfl) ?_
  refine lv_if_lt (tgt := 16) hx hb dX9_cellOf_1 (by decide) (fun g => ?_) (fun g => ?_)
  · rw [if_pos g] at h
    refine lv_iconst (v := (0 : Int32)) hx hb dX9_cellOf_16 (by decide) ?_
    obtain rfl := Option.some.inj h
    exact W.iret (v := (0 : Int32)) hx hb hr (fun t ht hW => ⟨⟨_, (), rfl, rfl, by rw [ht]; exact hP, hD⟩, hS.F ht⟩) hS.2.2 dX9_cellOf_17
  · rw [if_neg g] at h
    refine lv_iload_n hx hb dX9_cellOf_4 rfl (lv_at hl 1 rfl) ?_
    refine lv_aload_n hx hb dX9_cellOf_5 rfl (lv_at hl 0 rfl) ?_
    refine va_alen (v := (Int32.ofNat nF)) hx hb hK hP 0 0 rfl rfl rfl dX9_cellOf_6 ?_
    refine lv_icmp_ge (tgt := 16) hx hb dX9_cellOf_7 (by decide) (fun g => ?_) (fun g => ?_)
    · rw [if_pos g] at h
      refine lv_iconst (v := (0 : Int32)) hx hb dX9_cellOf_16 (by decide) ?_
      obtain rfl := Option.some.inj h
      exact W.iret (v := (0 : Int32)) hx hb hr (fun t ht hW => ⟨⟨_, (), rfl, rfl, by rw [ht]; exact hP, hD⟩, hS.F ht⟩) hS.2.2 dX9_cellOf_17
    · rw [if_neg g] at h
      refine lv_aload_n hx hb dX9_cellOf_10 rfl (lv_at hl 0 rfl) ?_
      refine lv_iload_n hx hb dX9_cellOf_11 rfl (lv_at hl 1 rfl) ?_
      obtain ⟨g, h⟩ := kif h
      refine va_iald hx hb hK hP 0 0 rfl rfl (kin g) dX9_cellOf_12 ?_
      refine lv_goto (tgt := 17) hx hb dX9_cellOf_13 (by decide) ?_
      obtain rfl := Option.some.inj h
      exact W.iret (v := (vF0 i2.toNatClampNeg)) hx hb hr (fun t ht hW => ⟨⟨_, (), rfl, rfl, by rw [ht]; exact hP, hD⟩, hS.F ht⟩) hS.2.2 dX9_cellOf_17
set_option maxHeartbeats 8000000 in
set_option maxRecDepth 100000 in
theorem kX9_openCell (l : Launch) (D : va_G) (cI cC cS : ClassId) (aF : Nat) (nF : Nat) (vF0 : (Nat → Int32)) (i2 : Int32) (i3 : Int32) (sz : Nat) {q : (Nat → Int32)} (h : pX9_openCell nF vF0 i2 i3 = some q) : kMv l yX9_openCell wsX9_openCell ({ frames := 1, cells := 0, slots := 0, locals := 40 } : Room) D (kTy cI cC cS) [.ref aF, .int i2, .int i3] (wAR cI aF nF vF0) sz (wAR cI aF nF q) := by
  refine Met.ofW (cc := cX9_openCell) (maxL := 3) (ret := none) (by decide) rfl ?_
  intro p e s m args below meth c s₁ B hml hv
  obtain ⟨rfl, hsz, hP, hK, hD0, hN⟩ := hv
  have hx := B.exec
  have hb := B.bytes
  have hr := B.returns
  have hts := atoms_spec (ws := wsX9_openCell) B.pre
  have hown : s.vm.findClass RX9 = some m.cls := findClass_of_methodNamed B.named
  have hlocks := B.notSynchronized
  subst hsz
  have hD := hD0.self (sz := s.heap.size)
  generalize hAe : va_A (wAR cI aF nF vF0) s.heap.size = A at hD ⊢
  have hA : ∀ q : Nat, s.heap.size ≤ q → A q := fun q h => by rw [← hAe]; exact Or.inr h
  have hS : va_S A s.heap s.heap [] := va_S.rf
  have hl := lv_entry ([.ref aF, .int i2, .int i3]) (n := 3) (Nat.le_of_ble_eq_true rfl)
  rw [lg_entry_eq]
  generalize (lg_sl ([.ref aF, .int i2, .int i3]) ++ List.replicate (3 - (lg_sl ([.ref aF, .int i2, .int i3])).length) Slot.unset).toArray = ls at hl ⊢
  have hl : lv_has ls 3 [(0, .ref aF), (1, .int i2), (2, .int i3)] := hl
  unfold pX9_openCell at h
  refine lv_iload_n hx hb dX9_openCell_0 rfl (lv_at hl 2 rfl) ?_
  refine lv_iconst (v := (0 : Int32)) hx hb dX9_openCell_1 (by decide) ?_
  refine lv_aload_n hx hb dX9_openCell_2 rfl (lv_at hl 0 rfl) ?_
  refine va_alen (v := (Int32.ofNat nF)) hx hb hK hP 0 0 rfl rfl rfl dX9_openCell_3 ?_
  refine lv_iconst (v := (1 : Int32)) hx hb dX9_openCell_4 (by decide) ?_
  refine lv_isub hx hb dX9_openCell_5 ?_
  obtain ⟨q2, h1, h⟩ := Option.bind_eq_some_iff.mp h
  refine kcir [] (va_runS (As := [.int i3, .int (0 : Int32), .int ((Int32.ofNat nF) - (1 : Int32))]) (rest := []) ⟨hx, hb, hml, hown, hts⟩ (kX9_isWithin l D cI cC cS i3 (0 : Int32) ((Int32.ofNat nF) - (1 : Int32)) s.heap.size h1) (cwS 3 hts gX9_openCell_X9_isWithin rfl rfl rfl (by decide +kernel) ⟨Nat.le_of_ble_eq_true rfl, Nat.le_of_ble_eq_true rfl⟩) (kpre hK hN hP hD [] rfl (by decide)) rfl rfl hl.1 rfl (lv_room (Nat.le_of_ble_eq_true rfl)) dX9_openCell_6 ⟨Nat.le_refl _, Nat.le_refl _⟩) hP hD hS hA rfl (fun H locs hP hS => ?_)
  refine lv_if_eq (tgt := 33) hx hb dX9_openCell_9 (by decide) (fun g => ?_) (fun g => ?_)
  · rw [if_pos g] at h
    obtain rfl := Option.some.inj h
    exact W.vret hx hb hr (fun t ht hW => ⟨⟨(), rfl, trivial, by rw [ht]; exact hP, hD⟩, hS.F ht⟩) hS.2.2 dX9_openCell_33
  · rw [if_neg g] at h
    refine lv_iload_n hx hb dX9_openCell_12 rfl (lv_at hl 1 rfl) ?_
    refine lv_iconst (v := (0 : Int32)) hx hb dX9_openCell_13 (by decide) ?_
    refine lv_iload_n hx hb dX9_openCell_14 rfl (lv_at hl 2 rfl) ?_
    obtain ⟨q4, h3, h⟩ := Option.bind_eq_some_iff.mp h
    refine kcir [] (va_runS (As := [.int i2, .int (0 : Int32), .int i3]) (rest := []) ⟨hx, hb, hml, hown, hts⟩ (kX9_isWithin l D cI cC cS i2 (0 : Int32) i3 H.size h3) (cwS 3 hts gX9_openCell_X9_isWithin rfl rfl rfl (by decide +kernel) ⟨Nat.le_of_ble_eq_true rfl, Nat.le_of_ble_eq_true rfl⟩) (kpre hK hN hP hD [] rfl (by decide)) rfl rfl hl.1 rfl (lv_room (Nat.le_of_ble_eq_true rfl)) dX9_openCell_15 ⟨Nat.le_refl _, Nat.le_refl _⟩) hP hD hS hA rfl (fun H locs hP hS => ?_)
    refine lv_if_eq (tgt := 33) hx hb dX9_openCell_18 (by decide) (fun g => ?_) (fun g => ?_)
    · rw [if_pos g] at h
      obtain rfl := Option.some.inj h
      exact W.vret hx hb hr (fun t ht hW => ⟨⟨(), rfl, trivial, by rw [ht]; exact hP, hD⟩, hS.F ht⟩) hS.2.2 dX9_openCell_33
    · rw [if_neg g] at h
      refine lv_aload_n hx hb dX9_openCell_21 rfl (lv_at hl 0 rfl) ?_
      refine lv_iload_n hx hb dX9_openCell_22 rfl (lv_at hl 1 rfl) ?_
      refine lv_aload_n hx hb dX9_openCell_23 rfl (lv_at hl 0 rfl) ?_
      refine lv_iload_n hx hb dX9_openCell_24 rfl (lv_at hl 1 rfl) ?_
      refine lv_iconst (v := (1 : Int32)) hx hb dX9_openCell_25 (by decide) ?_
      refine lv_iadd hx hb dX9_openCell_26 ?_
      refine lv_iload_n hx hb dX9_openCell_27 rfl (lv_at hl 2 rfl) ?_
      refine lv_iload_n hx hb dX9_openCell_28 rfl (lv_at hl 1 rfl) ?_
      refine lv_isub hx hb dX9_openCell_29 ?_
      obtain ⟨g, h⟩ := kif h
      refine va_copyi hx hb (hml.trans hl.1.symm) hown (hts (.methodLink RX9 285 arraycopyName) (by decide +kernel)) (hts (.native arraycopyName) (by decide +kernel)) (hts (.static arraycopyName) (by decide +kernel)) (hts (.initialized "java/lang/System") (by decide +kernel)) hK hP hD hS 0 0 0 0 rfl rfl rfl rfl rfl g.1 g.2.1 g.2.2.1 g.2.2.2.1 g.2.2.2.2 (fun _ _ => rfl) (Nat.le_of_ble_eq_true rfl) (Nat.le_of_ble_eq_true rfl) dX9_openCell_30 (fun H locs hP hD hS => ?_)
      have hP : va_P D vwCl (wAR cI aF nF (va_cpy vF0 vF0 i2.toNatClampNeg (i2 + (1 : Int32)).toNatClampNeg (i3 - i2).toNatClampNeg)) H := hP
      have hD : va_D A (wAR cI aF nF (va_cpy vF0 vF0 i2.toNatClampNeg (i2 + (1 : Int32)).toNatClampNeg (i3 - i2).toNatClampNeg)) := hD
      obtain rfl := Option.some.inj h
      exact W.vret hx hb hr (fun t ht hW => ⟨⟨(), rfl, trivial, by rw [ht]; exact hP, hD⟩, hS.F ht⟩) hS.2.2 dX9_openCell_33
set_option maxHeartbeats 8000000 in
set_option maxRecDepth 100000 in
theorem kX9_closeCells (l : Launch) (D : va_G) (cI cC cS : ClassId) (aF : Nat) (nF : Nat) (vF0 : (Nat → Int32)) (i2 : Int32) (i3 : Int32) (i4 : Int32) (sz : Nat) {q : (Nat → Int32)} (h : pX9_closeCells nF vF0 i2 i3 i4 = some q) : kMv l yX9_closeCells wsX9_closeCells ({ frames := 1, cells := 0, slots := 0, locals := 40 } : Room) D (kTy cI cC cS) [.ref aF, .int i2, .int i3, .int i4] (wAR cI aF nF vF0) sz (wAR cI aF nF q) := by
  refine Met.ofW (cc := cX9_closeCells) (maxL := 4) (ret := none) (by decide) rfl ?_
  intro p e s m args below meth c s₁ B hml hv
  obtain ⟨rfl, hsz, hP, hK, hD0, hN⟩ := hv
  have hx := B.exec
  have hb := B.bytes
  have hr := B.returns
  have hts := atoms_spec (ws := wsX9_closeCells) B.pre
  have hown : s.vm.findClass RX9 = some m.cls := findClass_of_methodNamed B.named
  have hlocks := B.notSynchronized
  subst hsz
  have hD := hD0.self (sz := s.heap.size)
  generalize hAe : va_A (wAR cI aF nF vF0) s.heap.size = A at hD ⊢
  have hA : ∀ q : Nat, s.heap.size ≤ q → A q := fun q h => by rw [← hAe]; exact Or.inr h
  have hS : va_S A s.heap s.heap [] := va_S.rf
  have hl := lv_entry ([.ref aF, .int i2, .int i3, .int i4]) (n := 4) (Nat.le_of_ble_eq_true rfl)
  rw [lg_entry_eq]
  generalize (lg_sl ([.ref aF, .int i2, .int i3, .int i4]) ++ List.replicate (4 - (lg_sl ([.ref aF, .int i2, .int i3, .int i4])).length) Slot.unset).toArray = ls at hl ⊢
  have hl : lv_has ls 4 [(0, .ref aF), (1, .int i2), (2, .int i3), (3, .int i4)] := hl
  unfold pX9_closeCells at h
  refine lv_iload_n hx hb dX9_closeCells_0 rfl (lv_at hl 3 rfl) ?_
  refine lv_iconst (v := (0 : Int32)) hx hb dX9_closeCells_1 (by decide) ?_
  refine lv_aload_n hx hb dX9_closeCells_2 rfl (lv_at hl 0 rfl) ?_
  refine va_alen (v := (Int32.ofNat nF)) hx hb hK hP 0 0 rfl rfl rfl dX9_closeCells_3 ?_
  obtain ⟨q2, h1, h⟩ := Option.bind_eq_some_iff.mp h
  refine kcir [] (va_runS (As := [.int i4, .int (0 : Int32), .int (Int32.ofNat nF)]) (rest := []) ⟨hx, hb, hml, hown, hts⟩ (kX9_isWithin l D cI cC cS i4 (0 : Int32) (Int32.ofNat nF) s.heap.size h1) (cwS 3 hts gX9_closeCells_X9_isWithin rfl rfl rfl (by decide +kernel) ⟨Nat.le_of_ble_eq_true rfl, Nat.le_of_ble_eq_true rfl⟩) (kpre hK hN hP hD [] rfl (by decide)) rfl rfl hl.1 rfl (lv_room (Nat.le_of_ble_eq_true rfl)) dX9_closeCells_4 ⟨Nat.le_refl _, Nat.le_refl _⟩) hP hD hS hA rfl (fun H locs hP hS => ?_)
  refine lv_if_eq (tgt := 44) hx hb dX9_closeCells_7 (by decide) (fun g => ?_) (fun g => ?_)
  · rw [if_pos g] at h
    obtain rfl := Option.some.inj h
    exact W.vret hx hb hr (fun t ht hW => ⟨⟨(), rfl, trivial, by rw [ht]; exact hP, hD⟩, hS.F ht⟩) hS.2.2 dX9_closeCells_44
  · rw [if_neg g] at h
    refine lv_iload_n hx hb dX9_closeCells_10 rfl (lv_at hl 1 rfl) ?_
    refine lv_iconst (v := (0 : Int32)) hx hb dX9_closeCells_11 (by decide) ?_
    refine lv_iload_n hx hb dX9_closeCells_12 rfl (lv_at hl 3 rfl) ?_
    obtain ⟨q4, h3, h⟩ := Option.bind_eq_some_iff.mp h
    refine kcir [] (va_runS (As := [.int i2, .int (0 : Int32), .int i4]) (rest := []) ⟨hx, hb, hml, hown, hts⟩ (kX9_isWithin l D cI cC cS i2 (0 : Int32) i4 H.size h3) (cwS 3 hts gX9_closeCells_X9_isWithin rfl rfl rfl (by decide +kernel) ⟨Nat.le_of_ble_eq_true rfl, Nat.le_of_ble_eq_true rfl⟩) (kpre hK hN hP hD [] rfl (by decide)) rfl rfl hl.1 rfl (lv_room (Nat.le_of_ble_eq_true rfl)) dX9_closeCells_13 ⟨Nat.le_refl _, Nat.le_refl _⟩) hP hD hS hA rfl (fun H locs hP hS => ?_)
    refine lv_if_eq (tgt := 44) hx hb dX9_closeCells_16 (by decide) (fun g => ?_) (fun g => ?_)
    · rw [if_pos g] at h
      obtain rfl := Option.some.inj h
      exact W.vret hx hb hr (fun t ht hW => ⟨⟨(), rfl, trivial, by rw [ht]; exact hP, hD⟩, hS.F ht⟩) hS.2.2 dX9_closeCells_44
    · rw [if_neg g] at h
      refine lv_iload_n hx hb dX9_closeCells_19 rfl (lv_at hl 2 rfl) ?_
      refine lv_iconst (v := (0 : Int32)) hx hb dX9_closeCells_20 (by decide) ?_
      refine lv_iload_n hx hb dX9_closeCells_21 rfl (lv_at hl 3 rfl) ?_
      refine lv_iload_n hx hb dX9_closeCells_22 rfl (lv_at hl 1 rfl) ?_
      refine lv_isub hx hb dX9_closeCells_23 ?_
      obtain ⟨q6, h5, h⟩ := Option.bind_eq_some_iff.mp h
      refine kcir [] (va_runS (As := [.int i3, .int (0 : Int32), .int (i4 - i2)]) (rest := []) ⟨hx, hb, hml, hown, hts⟩ (kX9_isWithin l D cI cC cS i3 (0 : Int32) (i4 - i2) H.size h5) (cwS 3 hts gX9_closeCells_X9_isWithin rfl rfl rfl (by decide +kernel) ⟨Nat.le_of_ble_eq_true rfl, Nat.le_of_ble_eq_true rfl⟩) (kpre hK hN hP hD [] rfl (by decide)) rfl rfl hl.1 rfl (lv_room (Nat.le_of_ble_eq_true rfl)) dX9_closeCells_24 ⟨Nat.le_refl _, Nat.le_refl _⟩) hP hD hS hA rfl (fun H locs hP hS => ?_)
      refine lv_if_eq (tgt := 44) hx hb dX9_closeCells_27 (by decide) (fun g => ?_) (fun g => ?_)
      · rw [if_pos g] at h
        obtain rfl := Option.some.inj h
        exact W.vret hx hb hr (fun t ht hW => ⟨⟨(), rfl, trivial, by rw [ht]; exact hP, hD⟩, hS.F ht⟩) hS.2.2 dX9_closeCells_44
      · rw [if_neg g] at h
        refine lv_aload_n hx hb dX9_closeCells_30 rfl (lv_at hl 0 rfl) ?_
        refine lv_iload_n hx hb dX9_closeCells_31 rfl (lv_at hl 1 rfl) ?_
        refine lv_iload_n hx hb dX9_closeCells_32 rfl (lv_at hl 2 rfl) ?_
        refine lv_iadd hx hb dX9_closeCells_33 ?_
        refine lv_aload_n hx hb dX9_closeCells_34 rfl (lv_at hl 0 rfl) ?_
        refine lv_iload_n hx hb dX9_closeCells_35 rfl (lv_at hl 1 rfl) ?_
        refine lv_iload_n hx hb dX9_closeCells_36 rfl (lv_at hl 3 rfl) ?_
        refine lv_iload_n hx hb dX9_closeCells_37 rfl (lv_at hl 1 rfl) ?_
        refine lv_isub hx hb dX9_closeCells_38 ?_
        refine lv_iload_n hx hb dX9_closeCells_39 rfl (lv_at hl 2 rfl) ?_
        refine lv_isub hx hb dX9_closeCells_40 ?_
        obtain ⟨g, h⟩ := kif h
        refine va_copyi hx hb (hml.trans hl.1.symm) hown (hts (.methodLink RX9 285 arraycopyName) (by decide +kernel)) (hts (.native arraycopyName) (by decide +kernel)) (hts (.static arraycopyName) (by decide +kernel)) (hts (.initialized "java/lang/System") (by decide +kernel)) hK hP hD hS 0 0 0 0 rfl rfl rfl rfl rfl g.1 g.2.1 g.2.2.1 g.2.2.2.1 g.2.2.2.2 (fun _ _ => rfl) (Nat.le_of_ble_eq_true rfl) (Nat.le_of_ble_eq_true rfl) dX9_closeCells_41 (fun H locs hP hD hS => ?_)
        have hP : va_P D vwCl (wAR cI aF nF (va_cpy vF0 vF0 (i2 + i3).toNatClampNeg i2.toNatClampNeg ((i4 - i2) - i3).toNatClampNeg)) H := hP
        have hD : va_D A (wAR cI aF nF (va_cpy vF0 vF0 (i2 + i3).toNatClampNeg i2.toNatClampNeg ((i4 - i2) - i3).toNatClampNeg)) := hD
        obtain rfl := Option.some.inj h
        exact W.vret hx hb hr (fun t ht hW => ⟨⟨(), rfl, trivial, by rw [ht]; exact hP, hD⟩, hS.F ht⟩) hS.2.2 dX9_closeCells_44
set_option maxHeartbeats 8000000 in
set_option maxRecDepth 100000 in
theorem kX9_copyRow (l : Launch) (D : va_G) (cI cC cS : ClassId) (aF : Nat) (nF : Nat) (vF0 : (Nat → Int32)) (aT : Nat) (nT : Nat) (vT0 : (Nat → Int32)) (sz : Nat) {q : (Nat → Int32)} (h : pX9_copyRow nF nT vF0 = some q) : kMv l yX9_copyRow wsX9_copyRow ({ frames := 1, cells := 0, slots := 0, locals := 40 } : Room) D (kTy cI cC cS) [.ref aF, .ref aT] (wAR cI aF nF vF0 ++ wAR cI aT nT vT0) sz (wAR cI aF nF vF0 ++ wAR cI aT nT q) := by
  refine Met.ofW (cc := cX9_copyRow) (maxL := 2) (ret := none) (by decide) rfl ?_
  intro p e s m args below meth c s₁ B hml hv
  obtain ⟨rfl, hsz, hP, hK, hD0, hN⟩ := hv
  have hx := B.exec
  have hb := B.bytes
  have hr := B.returns
  have hts := atoms_spec (ws := wsX9_copyRow) B.pre
  have hown : s.vm.findClass RX9 = some m.cls := findClass_of_methodNamed B.named
  have hlocks := B.notSynchronized
  subst hsz
  have hD := hD0.self (sz := s.heap.size)
  generalize hAe : va_A (wAR cI aF nF vF0 ++ wAR cI aT nT vT0) s.heap.size = A at hD ⊢
  have hA : ∀ q : Nat, s.heap.size ≤ q → A q := fun q h => by rw [← hAe]; exact Or.inr h
  have hS : va_S A s.heap s.heap [] := va_S.rf
  have hl := lv_entry ([.ref aF, .ref aT]) (n := 2) (Nat.le_of_ble_eq_true rfl)
  rw [lg_entry_eq]
  generalize (lg_sl ([.ref aF, .ref aT]) ++ List.replicate (2 - (lg_sl ([.ref aF, .ref aT])).length) Slot.unset).toArray = ls at hl ⊢
  have hl : lv_has ls 2 [(0, .ref aF), (1, .ref aT)] := hl
  unfold pX9_copyRow at h
  obtain ⟨⟨g0, g1⟩, h9⟩ := kif h
  clear h; subst g0
  refine lv_aload_n hx hb dX9_copyRow_0 rfl (lv_at hl 0 rfl) ?_
  refine lv_iconst (v := (0 : Int32)) hx hb dX9_copyRow_1 (by decide) ?_
  refine lv_aload_n hx hb dX9_copyRow_2 rfl (lv_at hl 1 rfl) ?_
  refine lv_iconst (v := (0 : Int32)) hx hb dX9_copyRow_3 (by decide) ?_
  refine lv_aload_n hx hb dX9_copyRow_4 rfl (lv_at hl 0 rfl) ?_
  refine va_alen (v := (Int32.ofNat nF)) hx hb hK hP 0 0 rfl rfl rfl dX9_copyRow_5 ?_
  refine lv_aload_n hx hb dX9_copyRow_6 rfl (lv_at hl 1 rfl) ?_
  refine va_alen (v := (Int32.ofNat nF)) hx hb hK hP 1 0 rfl rfl rfl dX9_copyRow_7 ?_
  refine va_mmin hx hb (hml.trans hl.1.symm) hown (hts (.methodLink RX9 282 Lib.Math.min.name) (by decide +kernel)) (hts (.static Lib.Math.min.name) (by decide +kernel)) (hts (.initialized "java/lang/Math") (by decide +kernel)) (hts (.code Lib.Math.min.name Lib.Math.min.code 2 (some .int)) (by decide +kernel)) (Nat.le_of_ble_eq_true rfl) (Nat.le_of_ble_eq_true rfl) (Nat.le_refl _) (Nat.le_refl _) dX9_copyRow_8 ?_
  rw [show (if (Int32.ofNat nF) < (Int32.ofNat nF) then (Int32.ofNat nF) else (Int32.ofNat nF)) = Int32.ofNat nF from ite_self _]
  refine va_copyi hx hb (hml.trans hl.1.symm) hown (hts (.methodLink RX9 285 arraycopyName) (by decide +kernel)) (hts (.native arraycopyName) (by decide +kernel)) (hts (.static arraycopyName) (by decide +kernel)) (hts (.initialized "java/lang/System") (by decide +kernel)) hK hP hD hS 0 1 0 0 rfl rfl rfl rfl rfl (by decide) (by decide) (nI_pos (n := nF) (by omega)) (by have := nI_clamp (n := nF) (by omega); show 0 + (nI nF).toNatClampNeg ≤ nF; omega) (by have := nI_clamp (n := nF) (by omega); show 0 + (nI nF).toNatClampNeg ≤ nF; omega) (fun _ _ => rfl) (Nat.le_of_ble_eq_true rfl) (Nat.le_of_ble_eq_true rfl) dX9_copyRow_11 (fun H locs hP hD hS => ?_)
  have hP : va_P D vwCl (wAR cI aF nF vF0 ++ wAR cI aT nF (va_cpy vF0 vT0 (0 : Int32).toNatClampNeg (0 : Int32).toNatClampNeg (Int32.ofNat nF).toNatClampNeg)) H := hP
  have hP : va_P D vwCl (wAR cI aF nF vF0 ++ wAR cI aT nF vF0) H := kcpyP hP (fun j hj => by have := nI_clamp (n := nF) (by omega); show (if 0 ≤ j ∧ j < 0 + (nI nF).toNatClampNeg then vF0 (0 + (j - 0)) else vT0 j) = vF0 j; rw [if_pos (by omega), Nat.zero_add, Nat.sub_zero])
  have hD : va_D A (wAR cI aF nF vF0 ++ wAR cI aT nF vF0) := ⟨fun i j p q hi hj => kcpyD i j p q hD.1 hi hj, fun k q hk => kcpyDA k q hD.2 hk⟩
  obtain rfl := Option.some.inj h9
  exact W.vret hx hb hr (fun t ht hW => ⟨⟨(), rfl, trivial, by rw [ht]; exact hP, hD⟩, hS.F ht⟩) hS.2.2 dX9_copyRow_14
