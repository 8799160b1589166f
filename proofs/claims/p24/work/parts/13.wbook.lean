-- walks: book (printed by wip/whole/gen)
set_option maxHeartbeats 8000000 in
set_option maxRecDepth 100000 in
theorem kX0_has (l : Launch) (D : va_G) (cI cC cS : ClassId) (aB : Nat × Nat × Nat × Nat) (vB0 : (Nat → Int32)) (vB1 : (Nat → Int32)) (vB2 : (Nat → Int32)) (vB3 : Int32) (i1 : Int32) (sz : Nat) {q : Int32} (h : pX0_has vB3 i1 = some q) : kMi l yX0_has wsX0_has ({ frames := 0, cells := 0, slots := 0, locals := 0 } : Room) D (kTy cI cC cS) [.ref aB.1, .int i1] (wBK cI aB vB0 vB1 vB2 vB3) sz q (wBK cI aB vB0 vB1 vB2 vB3) := by
  refine Met.ofW (cc := cX0_has) (maxL := 2) (ret := (some .boolean)) (by decide) rfl ?_
  intro p e s m args below meth c s₁ B hml hv
  obtain ⟨rfl, hsz, hP, hK, hD0, hN⟩ := hv
  have hx := B.exec
  have hb := B.bytes
  have hr := B.returns
  have hts := atoms_spec (ws := wsX0_has) B.pre
  have hown : s.vm.findClass RX0 = some m.cls := findClass_of_methodNamed B.named
  have hlocks := B.notSynchronized
  subst hsz
  have hD := hD0.self (sz := s.heap.size)
  generalize hAe : va_A (wBK cI aB vB0 vB1 vB2 vB3) s.heap.size = A at hD ⊢
  have hA : ∀ q : Nat, s.heap.size ≤ q → A q := fun q h => by rw [← hAe]; exact Or.inr h
  have hS : va_S A s.heap s.heap [] := va_S.rf
  have huX0 : ∀ w ∈ u_ws RX0 TX0 4, w ∈ wsX0_has := by decide +kernel
  have hl := lv_entry ([.ref aB.1, .int i1]) (n := 2) (Nat.le_of_ble_eq_true rfl)
  rw [lg_entry_eq]
  generalize (lg_sl ([.ref aB.1, .int i1]) ++ List.replicate (2 - (lg_sl ([.ref aB.1, .int i1])).length) Slot.unset).toArray = ls at hl ⊢
  have hl : lv_has ls 2 [(0, .ref aB.1), (1, .int i1)] := hl
  unfold pX0_has at h
  refine lv_iload_n hx hb dX0_has_0 rfl (lv_at hl 1 rfl) ?_
  refine lv_if_lt (tgt := 16) hx hb dX0_has_1 (by decide) (fun g => ?_) (fun g => ?_)
  · rw [if_pos g] at h
    refine lv_iconst (v := (0 : Int32)) hx hb dX0_has_16 (by decide) ?_
    obtain rfl := Option.some.inj h
    exact W.zret (v := (0 : Int32)) hx hb hr rfl (fun t ht hW => ⟨⟨_, (), rfl, rfl, by rw [ht]; exact hP, hD⟩, hS.F ht⟩) hS.2.2 dX0_has_17
  · rw [if_neg g] at h
    refine lv_iload_n hx hb dX0_has_4 rfl (lv_at hl 1 rfl) ?_
    refine lv_aload_n hx hb dX0_has_5 rfl (lv_at hl 0 rfl) ?_
    refine va_get (D := D) (ci := 0) (v := .int vB3) (C := RX0) (T := TX0) (N := 4) hx hb hts huX0 hown hK hP 0 rfl rfl 3 (by decide) (hts (.fieldLink RX0 25 "VerseColumns$Book" "verses" "I") (by decide +kernel)) (fun _ h9 => h9) rfl dX0_has_6 ?_
    refine lv_icmp_ge (tgt := 16) hx hb dX0_has_9 (by decide) (fun g => ?_) (fun g => ?_)
    · rw [if_pos g] at h
      refine lv_iconst (v := (0 : Int32)) hx hb dX0_has_16 (by decide) ?_
      obtain rfl := Option.some.inj h
      exact W.zret (v := (0 : Int32)) hx hb hr rfl (fun t ht hW => ⟨⟨_, (), rfl, rfl, by rw [ht]; exact hP, hD⟩, hS.F ht⟩) hS.2.2 dX0_has_17
    · rw [if_neg g] at h
      refine lv_iconst (v := (1 : Int32)) hx hb dX0_has_12 (by decide) ?_
      refine lv_goto (tgt := 17) hx hb dX0_has_13 (by decide) ?_
      obtain rfl := Option.some.inj h
      exact W.zret (v := (1 : Int32)) hx hb hr rfl (fun t ht hW => ⟨⟨_, (), rfl, rfl, by rw [ht]; exact hP, hD⟩, hS.F ht⟩) hS.2.2 dX0_has_17
set_option maxHeartbeats 8000000 in
set_option maxRecDepth 100000 in
theorem kX0_chapterOf (l : Launch) (D : va_G) (cI cC cS : ClassId) (aB : Nat × Nat × Nat × Nat) (vB0 : (Nat → Int32)) (vB1 : (Nat → Int32)) (vB2 : (Nat → Int32)) (vB3 : Int32) (i1 : Int32) (sz : Nat) {q : Int32} (h : pX0_chapterOf vB0 vB3 i1 = some q) : kMi l yX0_chapterOf wsX0_chapterOf ({ frames := 1, cells := 0, slots := 0, locals := 21 } : Room) D (kTy cI cC cS) [.ref aB.1, .int i1] (wBK cI aB vB0 vB1 vB2 vB3) sz q (wBK cI aB vB0 vB1 vB2 vB3) := by
  refine Met.ofW (cc := cX0_chapterOf) (maxL := 2) (ret := (some .int)) (by decide) rfl ?_
  intro p e s m args below meth c s₁ B hml hv
  obtain ⟨rfl, hsz, hP, hK, hD0, hN⟩ := hv
  have hx := B.exec
  have hb := B.bytes
  have hr := B.returns
  have hts := atoms_spec (ws := wsX0_chapterOf) B.pre
  have hown : s.vm.findClass RX0 = some m.cls := findClass_of_methodNamed B.named
  have hlocks := B.notSynchronized
  subst hsz
  have hD := hD0.self (sz := s.heap.size)
  generalize hAe : va_A (wBK cI aB vB0 vB1 vB2 vB3) s.heap.size = A at hD ⊢
  have hA : ∀ q : Nat, s.heap.size ≤ q → A q := fun q h => by rw [← hAe]; exact Or.inr h
  have hS : va_S A s.heap s.heap [] := va_S.rf
  have huX0 : ∀ w ∈ u_ws RX0 TX0 4, w ∈ wsX0_chapterOf := by decide +kernel
  have hl := lv_entry ([.ref aB.1, .int i1]) (n := 2) (Nat.le_of_ble_eq_true rfl)
  rw [lg_entry_eq]
  generalize (lg_sl ([.ref aB.1, .int i1]) ++ List.replicate (2 - (lg_sl ([.ref aB.1, .int i1])).length) Slot.unset).toArray = ls at hl ⊢
  have hl : lv_has ls 2 [(0, .ref aB.1), (1, .int i1)] := hl
  unfold pX0_chapterOf at h
  refine lv_aload_n hx hb dX0_chapterOf_0 rfl (lv_at hl 0 rfl) ?_
  refine lv_iload_n hx hb dX0_chapterOf_1 rfl (lv_at hl 1 rfl) ?_
  obtain ⟨q2, h1, h⟩ := Option.bind_eq_some_iff.mp h
  refine kcir [0, 1, 2, 3] (va_runV (As := [.int i1]) (rest := []) ⟨hx, hb, hml, hown, hts⟩ (kX0_has l D cI cC cS aB vB0 vB1 vB2 vB3 i1 s.heap.size h1) (cwV 1 hts gX0_chapterOf_X0_has rfl rfl rfl (by decide +kernel) ⟨Nat.le_of_ble_eq_true rfl, Nat.le_of_ble_eq_true rfl⟩) (kpreV hK hN hP hD [0, 1, 2, 3] rfl (by decide) 0 rfl rfl) rfl rfl hl.1 rfl (lv_room (Nat.le_of_ble_eq_true rfl)) dX0_chapterOf_2 ⟨Nat.le_refl _, Nat.le_refl _⟩) hP hD hS hA rfl (fun H locs hP hS => ?_)
  refine lv_if_eq (tgt := 19) hx hb dX0_chapterOf_5 (by decide) (fun g => ?_) (fun g => ?_)
  · rw [if_pos g] at h
    refine lv_iconst (v := (0 : Int32)) hx hb dX0_chapterOf_19 (by decide) ?_
    obtain rfl := Option.some.inj h
    exact W.iret (v := (0 : Int32)) hx hb hr (fun t ht hW => ⟨⟨_, (), rfl, rfl, by rw [ht]; exact hP, hD⟩, hS.F ht⟩) hS.2.2 dX0_chapterOf_20
  · rw [if_neg g] at h
    refine lv_aload_n hx hb dX0_chapterOf_8 rfl (lv_at hl 0 rfl) ?_
    refine va_get (D := D) (ci := 0) (v := .ref aB.2.1) (C := RX0) (T := TX0) (N := 4) hx hb hts huX0 hown hK hP 0 rfl rfl 0 (by decide) (hts (.fieldLink RX0 9 "VerseColumns$Book" "chapters" "[I") (by decide +kernel)) (fun _ h9 => h9) rfl dX0_chapterOf_9 ?_
    refine lv_iload_n hx hb dX0_chapterOf_12 rfl (lv_at hl 1 rfl) ?_
    obtain ⟨q4, h3, h⟩ := Option.bind_eq_some_iff.mp h
    refine kcir [1] (va_runSN (As := [.ref aB.2.1, .int i1]) (rest := []) ⟨hx, hb, hml, hown, hts⟩ (kX9_cellOf l D cI cC cS aB.2.1 60 vB0 i1 H.size h3) ⟨va_cnB 2 hts gX0_chapterOf_X9_cellOf_n33 rfl rfl rfl (hN.m 10 rfl) (hts (.initialized RX9) (by decide +kernel)) (by decide +kernel) ⟨Nat.le_of_ble_eq_true rfl, Nat.le_of_ble_eq_true rfl⟩, hts (.static yX9_cellOf) (by decide +kernel), trivial⟩ (kpre hK hN hP hD [1] rfl (by decide)) rfl rfl hl.1 rfl (lv_room (Nat.le_of_ble_eq_true rfl)) dX0_chapterOf_13 ⟨Nat.le_refl _, Nat.le_refl _⟩) hP hD hS hA rfl (fun H locs hP hS => ?_)
    refine lv_goto (tgt := 20) hx hb dX0_chapterOf_16 (by decide) ?_
    obtain rfl := Option.some.inj h
    exact W.iret (v := q4) hx hb hr (fun t ht hW => ⟨⟨_, (), rfl, rfl, by rw [ht]; exact hP, hD⟩, hS.F ht⟩) hS.2.2 dX0_chapterOf_20
set_option maxHeartbeats 8000000 in
set_option maxRecDepth 100000 in
theorem kX0_lettersOf (l : Launch) (D : va_G) (cI cC cS : ClassId) (aB : Nat × Nat × Nat × Nat) (vB0 : (Nat → Int32)) (vB1 : (Nat → Int32)) (vB2 : (Nat → Int32)) (vB3 : Int32) (i1 : Int32) (sz : Nat) {q : Int32} (h : pX0_lettersOf vB1 vB3 i1 = some q) : kMi l yX0_lettersOf wsX0_lettersOf ({ frames := 1, cells := 0, slots := 0, locals := 21 } : Room) D (kTy cI cC cS) [.ref aB.1, .int i1] (wBK cI aB vB0 vB1 vB2 vB3) sz q (wBK cI aB vB0 vB1 vB2 vB3) := by
  refine Met.ofW (cc := cX0_lettersOf) (maxL := 2) (ret := (some .int)) (by decide) rfl ?_
  intro p e s m args below meth c s₁ B hml hv
  obtain ⟨rfl, hsz, hP, hK, hD0, hN⟩ := hv
  have hx := B.exec
  have hb := B.bytes
  have hr := B.returns
  have hts := atoms_spec (ws := wsX0_lettersOf) B.pre
  have hown : s.vm.findClass RX0 = some m.cls := findClass_of_methodNamed B.named
  have hlocks := B.notSynchronized
  subst hsz
  have hD := hD0.self (sz := s.heap.size)
  generalize hAe : va_A (wBK cI aB vB0 vB1 vB2 vB3) s.heap.size = A at hD ⊢
  have hA : ∀ q : Nat, s.heap.size ≤ q → A q := fun q h => by rw [← hAe]; exact Or.inr h
  have hS : va_S A s.heap s.heap [] := va_S.rf
  have huX0 : ∀ w ∈ u_ws RX0 TX0 4, w ∈ wsX0_lettersOf := by decide +kernel
  have hl := lv_entry ([.ref aB.1, .int i1]) (n := 2) (Nat.le_of_ble_eq_true rfl)
  rw [lg_entry_eq]
  generalize (lg_sl ([.ref aB.1, .int i1]) ++ List.replicate (2 - (lg_sl ([.ref aB.1, .int i1])).length) Slot.unset).toArray = ls at hl ⊢
  have hl : lv_has ls 2 [(0, .ref aB.1), (1, .int i1)] := hl
  unfold pX0_lettersOf at h
  refine lv_aload_n hx hb dX0_lettersOf_0 rfl (lv_at hl 0 rfl) ?_
  refine lv_iload_n hx hb dX0_lettersOf_1 rfl (lv_at hl 1 rfl) ?_
  obtain ⟨q2, h1, h⟩ := Option.bind_eq_some_iff.mp h
  refine kcir [0, 1, 2, 3] (va_runV (As := [.int i1]) (rest := []) ⟨hx, hb, hml, hown, hts⟩ (kX0_has l D cI cC cS aB vB0 vB1 vB2 vB3 i1 s.heap.size h1) (cwV 1 hts gX0_lettersOf_X0_has rfl rfl rfl (by decide +kernel) ⟨Nat.le_of_ble_eq_true rfl, Nat.le_of_ble_eq_true rfl⟩) (kpreV hK hN hP hD [0, 1, 2, 3] rfl (by decide) 0 rfl rfl) rfl rfl hl.1 rfl (lv_room (Nat.le_of_ble_eq_true rfl)) dX0_lettersOf_2 ⟨Nat.le_refl _, Nat.le_refl _⟩) hP hD hS hA rfl (fun H locs hP hS => ?_)
  refine lv_if_eq (tgt := 19) hx hb dX0_lettersOf_5 (by decide) (fun g => ?_) (fun g => ?_)
  · rw [if_pos g] at h
    refine lv_iconst (v := (0 : Int32)) hx hb dX0_lettersOf_19 (by decide) ?_
    obtain rfl := Option.some.inj h
    exact W.iret (v := (0 : Int32)) hx hb hr (fun t ht hW => ⟨⟨_, (), rfl, rfl, by rw [ht]; exact hP, hD⟩, hS.F ht⟩) hS.2.2 dX0_lettersOf_20
  · rw [if_neg g] at h
    refine lv_aload_n hx hb dX0_lettersOf_8 rfl (lv_at hl 0 rfl) ?_
    refine va_get (D := D) (ci := 0) (v := .ref aB.2.2.1) (C := RX0) (T := TX0) (N := 4) hx hb hts huX0 hown hK hP 0 rfl rfl 1 (by decide) (hts (.fieldLink RX0 15 "VerseColumns$Book" "letters" "[I") (by decide +kernel)) (fun _ h9 => h9) rfl dX0_lettersOf_9 ?_
    refine lv_iload_n hx hb dX0_lettersOf_12 rfl (lv_at hl 1 rfl) ?_
    obtain ⟨q4, h3, h⟩ := Option.bind_eq_some_iff.mp h
    refine kcir [2] (va_runSN (As := [.ref aB.2.2.1, .int i1]) (rest := []) ⟨hx, hb, hml, hown, hts⟩ (kX9_cellOf l D cI cC cS aB.2.2.1 60 vB1 i1 H.size h3) ⟨va_cnB 2 hts gX0_lettersOf_X9_cellOf_n33 rfl rfl rfl (hN.m 10 rfl) (hts (.initialized RX9) (by decide +kernel)) (by decide +kernel) ⟨Nat.le_of_ble_eq_true rfl, Nat.le_of_ble_eq_true rfl⟩, hts (.static yX9_cellOf) (by decide +kernel), trivial⟩ (kpre hK hN hP hD [2] rfl (by decide)) rfl rfl hl.1 rfl (lv_room (Nat.le_of_ble_eq_true rfl)) dX0_lettersOf_13 ⟨Nat.le_refl _, Nat.le_refl _⟩) hP hD hS hA rfl (fun H locs hP hS => ?_)
    refine lv_goto (tgt := 20) hx hb dX0_lettersOf_16 (by decide) ?_
    obtain rfl := Option.some.inj h
    exact W.iret (v := q4) hx hb hr (fun t ht hW => ⟨⟨_, (), rfl, rfl, by rw [ht]; exact hP, hD⟩, hS.F ht⟩) hS.2.2 dX0_lettersOf_20
set_option maxHeartbeats 8000000 in
set_option maxRecDepth 100000 in
theorem kX0_noteOf (l : Launch) (D : va_G) (cI cC cS : ClassId) (aB : Nat × Nat × Nat × Nat) (vB0 : (Nat → Int32)) (vB1 : (Nat → Int32)) (vB2 : (Nat → Int32)) (vB3 : Int32) (i1 : Int32) (sz : Nat) {q : Int32} (h : pX0_noteOf vB2 vB3 i1 = some q) : kMi l yX0_noteOf wsX0_noteOf ({ frames := 1, cells := 0, slots := 0, locals := 21 } : Room) D (kTy cI cC cS) [.ref aB.1, .int i1] (wBK cI aB vB0 vB1 vB2 vB3) sz q (wBK cI aB vB0 vB1 vB2 vB3) := by
  refine Met.ofW (cc := cX0_noteOf) (maxL := 2) (ret := (some .int)) (by decide) rfl ?_
  intro p e s m args below meth c s₁ B hml hv
  obtain ⟨rfl, hsz, hP, hK, hD0, hN⟩ := hv
  have hx := B.exec
  have hb := B.bytes
  have hr := B.returns
  have hts := atoms_spec (ws := wsX0_noteOf) B.pre
  have hown : s.vm.findClass RX0 = some m.cls := findClass_of_methodNamed B.named
  have hlocks := B.notSynchronized
  subst hsz
  have hD := hD0.self (sz := s.heap.size)
  generalize hAe : va_A (wBK cI aB vB0 vB1 vB2 vB3) s.heap.size = A at hD ⊢
  have hA : ∀ q : Nat, s.heap.size ≤ q → A q := fun q h => by rw [← hAe]; exact Or.inr h
  have hS : va_S A s.heap s.heap [] := va_S.rf
  have huX0 : ∀ w ∈ u_ws RX0 TX0 4, w ∈ wsX0_noteOf := by decide +kernel
  have hl := lv_entry ([.ref aB.1, .int i1]) (n := 2) (Nat.le_of_ble_eq_true rfl)
  rw [lg_entry_eq]
  generalize (lg_sl ([.ref aB.1, .int i1]) ++ List.replicate (2 - (lg_sl ([.ref aB.1, .int i1])).length) Slot.unset).toArray = ls at hl ⊢
  have hl : lv_has ls 2 [(0, .ref aB.1), (1, .int i1)] := hl
  unfold pX0_noteOf at h
  refine lv_aload_n hx hb dX0_noteOf_0 rfl (lv_at hl 0 rfl) ?_
  refine lv_iload_n hx hb dX0_noteOf_1 rfl (lv_at hl 1 rfl) ?_
  obtain ⟨q2, h1, h⟩ := Option.bind_eq_some_iff.mp h
  refine kcir [0, 1, 2, 3] (va_runV (As := [.int i1]) (rest := []) ⟨hx, hb, hml, hown, hts⟩ (kX0_has l D cI cC cS aB vB0 vB1 vB2 vB3 i1 s.heap.size h1) (cwV 1 hts gX0_noteOf_X0_has rfl rfl rfl (by decide +kernel) ⟨Nat.le_of_ble_eq_true rfl, Nat.le_of_ble_eq_true rfl⟩) (kpreV hK hN hP hD [0, 1, 2, 3] rfl (by decide) 0 rfl rfl) rfl rfl hl.1 rfl (lv_room (Nat.le_of_ble_eq_true rfl)) dX0_noteOf_2 ⟨Nat.le_refl _, Nat.le_refl _⟩) hP hD hS hA rfl (fun H locs hP hS => ?_)
  refine lv_if_eq (tgt := 19) hx hb dX0_noteOf_5 (by decide) (fun g => ?_) (fun g => ?_)
  · rw [if_pos g] at h
    refine lv_iconst (v := (0 : Int32)) hx hb dX0_noteOf_19 (by decide) ?_
    obtain rfl := Option.some.inj h
    exact W.iret (v := (0 : Int32)) hx hb hr (fun t ht hW => ⟨⟨_, (), rfl, rfl, by rw [ht]; exact hP, hD⟩, hS.F ht⟩) hS.2.2 dX0_noteOf_20
  · rw [if_neg g] at h
    refine lv_aload_n hx hb dX0_noteOf_8 rfl (lv_at hl 0 rfl) ?_
    refine va_get (D := D) (ci := 0) (v := .ref aB.2.2.2) (C := RX0) (T := TX0) (N := 4) hx hb hts huX0 hown hK hP 0 rfl rfl 2 (by decide) (hts (.fieldLink RX0 18 "VerseColumns$Book" "notes" "[I") (by decide +kernel)) (fun _ h9 => h9) rfl dX0_noteOf_9 ?_
    refine lv_iload_n hx hb dX0_noteOf_12 rfl (lv_at hl 1 rfl) ?_
    obtain ⟨q4, h3, h⟩ := Option.bind_eq_some_iff.mp h
    refine kcir [3] (va_runSN (As := [.ref aB.2.2.2, .int i1]) (rest := []) ⟨hx, hb, hml, hown, hts⟩ (kX9_cellOf l D cI cC cS aB.2.2.2 60 vB2 i1 H.size h3) ⟨va_cnB 2 hts gX0_noteOf_X9_cellOf_n33 rfl rfl rfl (hN.m 10 rfl) (hts (.initialized RX9) (by decide +kernel)) (by decide +kernel) ⟨Nat.le_of_ble_eq_true rfl, Nat.le_of_ble_eq_true rfl⟩, hts (.static yX9_cellOf) (by decide +kernel), trivial⟩ (kpre hK hN hP hD [3] rfl (by decide)) rfl rfl hl.1 rfl (lv_room (Nat.le_of_ble_eq_true rfl)) dX0_noteOf_13 ⟨Nat.le_refl _, Nat.le_refl _⟩) hP hD hS hA rfl (fun H locs hP hS => ?_)
    refine lv_goto (tgt := 20) hx hb dX0_noteOf_16 (by decide) ?_
    obtain rfl := Option.some.inj h
    exact W.iret (v := q4) hx hb hr (fun t ht hW => ⟨⟨_, (), rfl, rfl, by rw [ht]; exact hP, hD⟩, hS.F ht⟩) hS.2.2 dX0_noteOf_20
set_option maxHeartbeats 8000000 in
set_option maxRecDepth 100000 in
theorem kX0_chapterTotal (l : Launch) (D : va_G) (cI cC cS : ClassId) (aB : Nat × Nat × Nat × Nat) (vB0 : (Nat → Int32)) (vB1 : (Nat → Int32)) (vB2 : (Nat → Int32)) (vB3 : Int32) (sz : Nat) {q : Int32} (h : pX0_chapterTotal vB0 vB3 = some q) : kMi l yX0_chapterTotal wsX0_chapterTotal ({ frames := 2, cells := 0, slots := 0, locals := 42 } : Room) D (kTy cI cC cS) [.ref aB.1] (wBK cI aB vB0 vB1 vB2 vB3) sz q (wBK cI aB vB0 vB1 vB2 vB3) := by
  refine Met.ofW (cc := cX0_chapterTotal) (maxL := 1) (ret := (some .int)) (by decide) rfl ?_
  intro p e s m args below meth c s₁ B hml hv
  obtain ⟨rfl, hsz, hP, hK, hD0, hN⟩ := hv
  have hx := B.exec
  have hb := B.bytes
  have hr := B.returns
  have hts := atoms_spec (ws := wsX0_chapterTotal) B.pre
  have hown : s.vm.findClass RX0 = some m.cls := findClass_of_methodNamed B.named
  have hlocks := B.notSynchronized
  subst hsz
  have hD := hD0.self (sz := s.heap.size)
  generalize hAe : va_A (wBK cI aB vB0 vB1 vB2 vB3) s.heap.size = A at hD ⊢
  have hA : ∀ q : Nat, s.heap.size ≤ q → A q := fun q h => by rw [← hAe]; exact Or.inr h
  have hS : va_S A s.heap s.heap [] := va_S.rf
  have huX0 : ∀ w ∈ u_ws RX0 TX0 4, w ∈ wsX0_chapterTotal := by decide +kernel
  have hl := lv_entry ([.ref aB.1]) (n := 1) (Nat.le_of_ble_eq_true rfl)
  rw [lg_entry_eq]
  generalize (lg_sl ([.ref aB.1]) ++ List.replicate (1 - (lg_sl ([.ref aB.1])).length) Slot.unset).toArray = ls at hl ⊢
  have hl : lv_has ls 1 [(0, .ref aB.1)] := hl
  unfold pX0_chapterTotal at h
  refine lv_aload_n hx hb dX0_chapterTotal_0 rfl (lv_at hl 0 rfl) ?_
  refine lv_aload_n hx hb dX0_chapterTotal_1 rfl (lv_at hl 0 rfl) ?_
  refine va_get (D := D) (ci := 0) (v := .int vB3) (C := RX0) (T := TX0) (N := 4) hx hb hts huX0 hown hK hP 0 rfl rfl 3 (by decide) (hts (.fieldLink RX0 25 "VerseColumns$Book" "verses" "I") (by decide +kernel)) (fun _ h9 => h9) rfl dX0_chapterTotal_2 ?_
  refine lv_iconst (v := (1 : Int32)) hx hb dX0_chapterTotal_5 (by decide) ?_
  refine lv_isub hx hb dX0_chapterTotal_6 ?_
  obtain ⟨q2, h1, h⟩ := Option.bind_eq_some_iff.mp h
  refine kcir [0, 1, 2, 3] (va_runV (As := [.int (vB3 - (1 : Int32))]) (rest := []) ⟨hx, hb, hml, hown, hts⟩ (kX0_chapterOf l D cI cC cS aB vB0 vB1 vB2 vB3 (vB3 - (1 : Int32)) s.heap.size h1) (cwV 1 hts gX0_chapterTotal_X0_chapterOf rfl rfl rfl (by decide +kernel) ⟨Nat.le_of_ble_eq_true rfl, Nat.le_of_ble_eq_true rfl⟩) (kpreV hK hN hP hD [0, 1, 2, 3] rfl (by decide) 0 rfl rfl) rfl rfl hl.1 rfl (lv_room (Nat.le_of_ble_eq_true rfl)) dX0_chapterTotal_7 ⟨Nat.le_refl _, Nat.le_refl _⟩) hP hD hS hA rfl (fun H locs hP hS => ?_)
  obtain rfl := Option.some.inj h
  exact W.iret (v := q2) hx hb hr (fun t ht hW => ⟨⟨_, (), rfl, rfl, by rw [ht]; exact hP, hD⟩, hS.F ht⟩) hS.2.2 dX0_chapterTotal_10
set_option maxHeartbeats 8000000 in
set_option maxRecDepth 100000 in
theorem kX0_opensChapter (l : Launch) (D : va_G) (cI cC cS : ClassId) (aB : Nat × Nat × Nat × Nat) (vB0 : (Nat → Int32)) (vB1 : (Nat → Int32)) (vB2 : (Nat → Int32)) (vB3 : Int32) (i1 : Int32) (sz : Nat) {q : Int32} (h : pX0_opensChapter vB0 vB3 i1 = some q) : kMi l yX0_opensChapter wsX0_opensChapter ({ frames := 2, cells := 0, slots := 0, locals := 42 } : Room) D (kTy cI cC cS) [.ref aB.1, .int i1] (wBK cI aB vB0 vB1 vB2 vB3) sz q (wBK cI aB vB0 vB1 vB2 vB3) := by
  refine Met.ofW (cc := cX0_opensChapter) (maxL := 2) (ret := (some .boolean)) (by decide) rfl ?_
  intro p e s m args below meth c s₁ B hml hv
  obtain ⟨rfl, hsz, hP, hK, hD0, hN⟩ := hv
  have hx := B.exec
  have hb := B.bytes
  have hr := B.returns
  have hts := atoms_spec (ws := wsX0_opensChapter) B.pre
  have hown : s.vm.findClass RX0 = some m.cls := findClass_of_methodNamed B.named
  have hlocks := B.notSynchronized
  subst hsz
  have hD := hD0.self (sz := s.heap.size)
  generalize hAe : va_A (wBK cI aB vB0 vB1 vB2 vB3) s.heap.size = A at hD ⊢
  have hA : ∀ q : Nat, s.heap.size ≤ q → A q := fun q h => by rw [← hAe]; exact Or.inr h
  have hS : va_S A s.heap s.heap [] := va_S.rf
  have hl := lv_entry ([.ref aB.1, .int i1]) (n := 2) (Nat.le_of_ble_eq_true rfl)
  rw [lg_entry_eq]
  generalize (lg_sl ([.ref aB.1, .int i1]) ++ List.replicate (2 - (lg_sl ([.ref aB.1, .int i1])).length) Slot.unset).toArray = ls at hl ⊢
  have hl : lv_has ls 2 [(0, .ref aB.1), (1, .int i1)] := hl
  unfold pX0_opensChapter at h
  refine lv_aload_n hx hb dX0_opensChapter_0 rfl (lv_at hl 0 rfl) ?_
  refine lv_iload_n hx hb dX0_opensChapter_1 rfl (lv_at hl 1 rfl) ?_
  obtain ⟨q2, h1, h⟩ := Option.bind_eq_some_iff.mp h
  refine kcir [0, 1, 2, 3] (va_runV (As := [.int i1]) (rest := []) ⟨hx, hb, hml, hown, hts⟩ (kX0_has l D cI cC cS aB vB0 vB1 vB2 vB3 i1 s.heap.size h1) (cwV 1 hts gX0_opensChapter_X0_has rfl rfl rfl (by decide +kernel) ⟨Nat.le_of_ble_eq_true rfl, Nat.le_of_ble_eq_true rfl⟩) (kpreV hK hN hP hD [0, 1, 2, 3] rfl (by decide) 0 rfl rfl) rfl rfl hl.1 rfl (lv_room (Nat.le_of_ble_eq_true rfl)) dX0_opensChapter_2 ⟨Nat.le_refl _, Nat.le_refl _⟩) hP hD hS hA rfl (fun H locs hP hS => ?_)
  refine lv_if_eq (tgt := 27) hx hb dX0_opensChapter_5 (by decide) (fun g => ?_) (fun g => ?_)
  · rw [if_pos g] at h
    refine lv_iconst (v := (0 : Int32)) hx hb dX0_opensChapter_27 (by decide) ?_
    obtain rfl := Option.some.inj h
    exact W.zret (v := (0 : Int32)) hx hb hr rfl (fun t ht hW => ⟨⟨_, (), rfl, rfl, by rw [ht]; exact hP, hD⟩, hS.F ht⟩) hS.2.2 dX0_opensChapter_28
  · rw [if_neg g] at h
    refine lv_aload_n hx hb dX0_opensChapter_8 rfl (lv_at hl 0 rfl) ?_
    refine lv_iload_n hx hb dX0_opensChapter_9 rfl (lv_at hl 1 rfl) ?_
    obtain ⟨q4, h3, h⟩ := Option.bind_eq_some_iff.mp h
    refine kcir [0, 1, 2, 3] (va_runV (As := [.int i1]) (rest := []) ⟨hx, hb, hml, hown, hts⟩ (kX0_chapterOf l D cI cC cS aB vB0 vB1 vB2 vB3 i1 H.size h3) (cwV 1 hts gX0_opensChapter_X0_chapterOf rfl rfl rfl (by decide +kernel) ⟨Nat.le_of_ble_eq_true rfl, Nat.le_of_ble_eq_true rfl⟩) (kpreV hK hN hP hD [0, 1, 2, 3] rfl (by decide) 0 rfl rfl) rfl rfl hl.1 rfl (lv_room (Nat.le_of_ble_eq_true rfl)) dX0_opensChapter_10 ⟨Nat.le_refl _, Nat.le_refl _⟩) hP hD hS hA rfl (fun H locs hP hS => ?_)
    refine lv_aload_n hx hb dX0_opensChapter_13 rfl (lv_at hl 0 rfl) ?_
    refine lv_iload_n hx hb dX0_opensChapter_14 rfl (lv_at hl 1 rfl) ?_
    refine lv_iconst (v := (1 : Int32)) hx hb dX0_opensChapter_15 (by decide) ?_
    refine lv_isub hx hb dX0_opensChapter_16 ?_
    obtain ⟨q6, h5, h⟩ := Option.bind_eq_some_iff.mp h
    refine kcir [0, 1, 2, 3] (va_runV (As := [.int (i1 - (1 : Int32))]) (rest := [.int q4]) ⟨hx, hb, hml, hown, hts⟩ (kX0_chapterOf l D cI cC cS aB vB0 vB1 vB2 vB3 (i1 - (1 : Int32)) H.size h5) (cwV 1 hts gX0_opensChapter_X0_chapterOf rfl rfl rfl (by decide +kernel) ⟨Nat.le_of_ble_eq_true rfl, Nat.le_of_ble_eq_true rfl⟩) (kpreV hK hN hP hD [0, 1, 2, 3] rfl (by decide) 0 rfl rfl) rfl rfl hl.1 rfl (lv_room (Nat.le_of_ble_eq_true rfl)) dX0_opensChapter_17 ⟨Nat.le_refl _, Nat.le_refl _⟩) hP hD hS hA rfl (fun H locs hP hS => ?_)
    refine lv_icmp_eq (tgt := 27) hx hb dX0_opensChapter_20 (by decide) (fun g => ?_) (fun g => ?_)
    · rw [if_pos g] at h
      refine lv_iconst (v := (0 : Int32)) hx hb dX0_opensChapter_27 (by decide) ?_
      obtain rfl := Option.some.inj h
      exact W.zret (v := (0 : Int32)) hx hb hr rfl (fun t ht hW => ⟨⟨_, (), rfl, rfl, by rw [ht]; exact hP, hD⟩, hS.F ht⟩) hS.2.2 dX0_opensChapter_28
    · rw [if_neg g] at h
      refine lv_iconst (v := (1 : Int32)) hx hb dX0_opensChapter_23 (by decide) ?_
      refine lv_goto (tgt := 28) hx hb dX0_opensChapter_24 (by decide) ?_
      obtain rfl := Option.some.inj h
      exact W.zret (v := (1 : Int32)) hx hb hr rfl (fun t ht hW => ⟨⟨_, (), rfl, rfl, by rw [ht]; exact hP, hD⟩, hS.F ht⟩) hS.2.2 dX0_opensChapter_28
set_option maxHeartbeats 8000000 in
set_option maxRecDepth 100000 in
theorem kX0_firstOf (l : Launch) (D : va_G) (cI cC cS : ClassId) (aB : Nat × Nat × Nat × Nat) (vB0 : (Nat → Int32)) (vB1 : (Nat → Int32)) (vB2 : (Nat → Int32)) (vB3 : Int32) (i1 : Int32) (sz : Nat) {q : Int32} (h : pX0_firstOf vB0 vB3 i1 = some q) : kMi l yX0_firstOf wsX0_firstOf ({ frames := 1, cells := 0, slots := 0, locals := 21 } : Room) D (kTy cI cC cS) [.ref aB.1, .int i1] (wBK cI aB vB0 vB1 vB2 vB3) sz q (wBK cI aB vB0 vB1 vB2 vB3) := by
  refine Met.ofW (cc := cX0_firstOf) (maxL := 3) (ret := (some .int)) (by decide) rfl ?_
  intro p e s m args below meth c s₁ B hml hv
  obtain ⟨rfl, hsz, hP, hK, hD0, hN⟩ := hv
  have hx := B.exec
  have hb := B.bytes
  have hr := B.returns
  have hts := atoms_spec (ws := wsX0_firstOf) B.pre
  have hown : s.vm.findClass RX0 = some m.cls := findClass_of_methodNamed B.named
  have hlocks := B.notSynchronized
  subst hsz
  have hD := hD0.self (sz := s.heap.size)
  generalize hAe : va_A (wBK cI aB vB0 vB1 vB2 vB3) s.heap.size = A at hD ⊢
  have hA : ∀ q : Nat, s.heap.size ≤ q → A q := fun q h => by rw [← hAe]; exact Or.inr h
  have hS : va_S A s.heap s.heap [] := va_S.rf
  have huX0 : ∀ w ∈ u_ws RX0 TX0 4, w ∈ wsX0_firstOf := by decide +kernel
  have hl := lv_entry ([.ref aB.1, .int i1]) (n := 3) (Nat.le_of_ble_eq_true rfl)
  rw [lg_entry_eq]
  generalize (lg_sl ([.ref aB.1, .int i1]) ++ List.replicate (3 - (lg_sl ([.ref aB.1, .int i1])).length) Slot.unset).toArray = ls at hl ⊢
  have hl : lv_has ls 3 [(0, .ref aB.1), (1, .int i1)] := hl
  have L2 : ∀ (nL2 : Nat) (y1 : Int32) (y2 : Int32) (H : Heap) (locs : List Loc) (ls : Array Slot), pX0_firstOf_L2 vB0 vB3 nL2 y1 y2 = some q → va_P D vwCl (wBK cI aB vB0 vB1 vB2 vB3) H → va_S A s.heap H locs → lv_has ls 3 [(0, .ref aB.1), (1, .int y1), (2, .int y2)] → W p l e ({ frames := 1, cells := 0, slots := 0, locals := 21 } : Room) s m ([.ref aB.1, .int i1] : List Value).toArray below meth c H locs 0 0 (MQ below (va_Qi (fun (r : Int32) (_ : Unit) => r = q) (fun _ => kPost D (wBK cI aB vB0 vB1 vB2 vB3) A) A) ([.ref aB.1, .int i1] : List Value).toArray s 0 0 A) (F0 m 2 ls []) := by
    clear h hP hS hl
    intro nL2
    induction nL2 with
    | zero => intro y1 y2 H locs ls h; have h : (none : Option (Int32)) = some q := h; cases h
    | succ nL2 ihL2 =>
      intro y1 y2 H locs ls h hP hS hl
      have h : pX0_firstOf_bL2 vB0 vB3 (pX0_firstOf_L2 vB0 vB3 nL2) y1 y2 = some q := h
      unfold pX0_firstOf_bL2 at h
      refine lv_iload_n hx hb dX0_firstOf_2 rfl (lv_at hl 2 rfl) ?_
      refine lv_aload_n hx hb dX0_firstOf_3 rfl (lv_at hl 0 rfl) ?_
      refine va_get (D := D) (ci := 0) (v := .int vB3) (C := RX0) (T := TX0) (N := 4) hx hb hts huX0 hown hK hP 0 rfl rfl 3 (by decide) (hts (.fieldLink RX0 25 "VerseColumns$Book" "verses" "I") (by decide +kernel)) (fun _ h9 => h9) rfl dX0_firstOf_4 ?_
      refine lv_icmp_ge (tgt := 30) hx hb dX0_firstOf_7 (by decide) (fun g => ?_) (fun g => ?_)
      · rw [if_pos g] at h
        refine lv_iconst (v := (-1 : Int32)) hx hb dX0_firstOf_30 (by decide) ?_
        obtain rfl := Option.some.inj h
        exact W.iret (v := (-1 : Int32)) hx hb hr (fun t ht hW => ⟨⟨_, (), rfl, rfl, by rw [ht]; exact hP, hD⟩, hS.F ht⟩) hS.2.2 dX0_firstOf_31
      · rw [if_neg g] at h
        refine lv_aload_n hx hb dX0_firstOf_10 rfl (lv_at hl 0 rfl) ?_
        refine va_get (D := D) (ci := 0) (v := .ref aB.2.1) (C := RX0) (T := TX0) (N := 4) hx hb hts huX0 hown hK hP 0 rfl rfl 0 (by decide) (hts (.fieldLink RX0 9 "VerseColumns$Book" "chapters" "[I") (by decide +kernel)) (fun _ h9 => h9) rfl dX0_firstOf_11 ?_
        refine lv_iload_n hx hb dX0_firstOf_14 rfl (lv_at hl 2 rfl) ?_
        obtain ⟨q2, h1, h⟩ := Option.bind_eq_some_iff.mp h
        refine kcir [1] (va_runSN (As := [.ref aB.2.1, .int y2]) (rest := []) ⟨hx, hb, hml, hown, hts⟩ (kX9_cellOf l D cI cC cS aB.2.1 60 vB0 y2 H.size h1) ⟨va_cnB 2 hts gX0_firstOf_X9_cellOf_n33 rfl rfl rfl (hN.m 10 rfl) (hts (.initialized RX9) (by decide +kernel)) (by decide +kernel) ⟨Nat.le_of_ble_eq_true rfl, Nat.le_of_ble_eq_true rfl⟩, hts (.static yX9_cellOf) (by decide +kernel), trivial⟩ (kpre hK hN hP hD [1] rfl (by decide)) rfl rfl hl.1 rfl (lv_room (Nat.le_of_ble_eq_true rfl)) dX0_firstOf_15 ⟨Nat.le_refl _, Nat.le_refl _⟩) hP hD hS hA rfl (fun H locs hP hS => ?_)
        refine lv_iload_n hx hb dX0_firstOf_18 rfl (lv_at hl 1 rfl) ?_
        refine lv_icmp_ne (tgt := 24) hx hb dX0_firstOf_19 (by decide) (fun g => ?_) (fun g => ?_)
        · rw [if_neg g] at h
          refine lv_iinc (v := (y2 + (1 : Int32))) (lv' := [(2, .int (y2 + (1 : Int32))), (0, .ref aB.1), (1, .int y1)]) hx hb dX0_firstOf_24 hl (k := 2) rfl rfl (by decide) rfl (fun ls hl => ?_)
          refine lv_goto (tgt := 2) hx hb dX0_firstOf_27 (by decide) ?_
          exact ihL2 y1 (y2 + (1 : Int32)) _ _ _ h hP hS (lv_sub hl [1, 2, 0] rfl)
        · rw [if_pos g] at h
          refine lv_iload_n hx hb dX0_firstOf_22 rfl (lv_at hl 2 rfl) ?_
          obtain rfl := Option.some.inj h
          exact W.iret (v := y2) hx hb hr (fun t ht hW => ⟨⟨_, (), rfl, rfl, by rw [ht]; exact hP, hD⟩, hS.F ht⟩) hS.2.2 dX0_firstOf_23
  unfold pX0_firstOf at h
  refine lv_iconst (v := (0 : Int32)) hx hb dX0_firstOf_0 (by decide) ?_
  refine lv_istore_n (lv' := [(2, .int (0 : Int32)), (0, .ref aB.1), (1, .int i1)]) hx hb dX0_firstOf_1 rfl hl (by decide) rfl (fun ls hl => ?_)
  exact L2 4000 i1 (0 : Int32) _ _ _ h hP hS (lv_sub hl [1, 2, 0] rfl)
set_option maxHeartbeats 8000000 in
set_option maxRecDepth 100000 in
theorem kX0_versesOf (l : Launch) (D : va_G) (cI cC cS : ClassId) (aB : Nat × Nat × Nat × Nat) (vB0 : (Nat → Int32)) (vB1 : (Nat → Int32)) (vB2 : (Nat → Int32)) (vB3 : Int32) (i1 : Int32) (sz : Nat) {q : Int32} (h : pX0_versesOf vB0 vB3 i1 = some q) : kMi l yX0_versesOf wsX0_versesOf ({ frames := 1, cells := 0, slots := 0, locals := 21 } : Room) D (kTy cI cC cS) [.ref aB.1, .int i1] (wBK cI aB vB0 vB1 vB2 vB3) sz q (wBK cI aB vB0 vB1 vB2 vB3) := by
  refine Met.ofW (cc := cX0_versesOf) (maxL := 4) (ret := (some .int)) (by decide) rfl ?_
  intro p e s m args below meth c s₁ B hml hv
  obtain ⟨rfl, hsz, hP, hK, hD0, hN⟩ := hv
  have hx := B.exec
  have hb := B.bytes
  have hr := B.returns
  have hts := atoms_spec (ws := wsX0_versesOf) B.pre
  have hown : s.vm.findClass RX0 = some m.cls := findClass_of_methodNamed B.named
  have hlocks := B.notSynchronized
  subst hsz
  have hD := hD0.self (sz := s.heap.size)
  generalize hAe : va_A (wBK cI aB vB0 vB1 vB2 vB3) s.heap.size = A at hD ⊢
  have hA : ∀ q : Nat, s.heap.size ≤ q → A q := fun q h => by rw [← hAe]; exact Or.inr h
  have hS : va_S A s.heap s.heap [] := va_S.rf
  have huX0 : ∀ w ∈ u_ws RX0 TX0 4, w ∈ wsX0_versesOf := by decide +kernel
  have hl := lv_entry ([.ref aB.1, .int i1]) (n := 4) (Nat.le_of_ble_eq_true rfl)
  rw [lg_entry_eq]
  generalize (lg_sl ([.ref aB.1, .int i1]) ++ List.replicate (4 - (lg_sl ([.ref aB.1, .int i1])).length) Slot.unset).toArray = ls at hl ⊢
  have hl : lv_has ls 4 [(0, .ref aB.1), (1, .int i1)] := hl
  have L4 : ∀ (nL4 : Nat) (y1 : Int32) (y2 : Int32) (y3 : Int32) (H : Heap) (locs : List Loc) (ls : Array Slot), pX0_versesOf_L4 vB0 vB3 nL4 y1 y2 y3 = some q → va_P D vwCl (wBK cI aB vB0 vB1 vB2 vB3) H → va_S A s.heap H locs → lv_has ls 4 [(0, .ref aB.1), (1, .int y1), (2, .int y2), (3, .int y3)] → W p l e ({ frames := 1, cells := 0, slots := 0, locals := 21 } : Room) s m ([.ref aB.1, .int i1] : List Value).toArray below meth c H locs 0 0 (MQ below (va_Qi (fun (r : Int32) (_ : Unit) => r = q) (fun _ => kPost D (wBK cI aB vB0 vB1 vB2 vB3) A) A) ([.ref aB.1, .int i1] : List Value).toArray s 0 0 A) (F0 m 4 ls []) := by
    clear h hP hS hl
    intro nL4
    induction nL4 with
    | zero => intro y1 y2 y3 H locs ls h; have h : (none : Option (Int32)) = some q := h; cases h
    | succ nL4 ihL4 =>
      have j30 : ∀ (y1 : Int32) (y3 : Int32) (t0 : Int32) (t1 : Int32) (H : Heap) (locs : List Loc) (ls : Array Slot), pX0_versesOf_j30 vB0 vB3 (pX0_versesOf_L4 vB0 vB3 nL4) y1 y3 t0 t1 = some q → va_P D vwCl (wBK cI aB vB0 vB1 vB2 vB3) H → va_S A s.heap H locs → lv_has ls 4 [(0, .ref aB.1), (1, .int y1), (3, .int y3)] → W p l e ({ frames := 1, cells := 0, slots := 0, locals := 21 } : Room) s m ([.ref aB.1, .int i1] : List Value).toArray below meth c H locs 0 0 (MQ below (va_Qi (fun (r : Int32) (_ : Unit) => r = q) (fun _ => kPost D (wBK cI aB vB0 vB1 vB2 vB3) A) A) ([.ref aB.1, .int i1] : List Value).toArray s 0 0 A) (F0 m 30 ls [.int t1, .int t0]) := by
        skip
        intro y1 y3 t0 t1 H locs ls h hP hS hl
        unfold pX0_versesOf_j30 at h
        refine lv_iadd hx hb dX0_versesOf_30 ?_
        refine lv_istore_n (lv' := [(2, .int (t0 + t1)), (0, .ref aB.1), (1, .int y1), (3, .int y3)]) hx hb dX0_versesOf_31 rfl hl (by decide) rfl (fun ls hl => ?_)
        refine lv_iinc (v := (y3 + (1 : Int32))) (lv' := [(3, .int (y3 + (1 : Int32))), (2, .int (t0 + t1)), (0, .ref aB.1), (1, .int y1)]) hx hb dX0_versesOf_32 hl (k := 3) rfl rfl (by decide) rfl (fun ls hl => ?_)
        refine lv_goto (tgt := 4) hx hb dX0_versesOf_35 (by decide) ?_
        exact ihL4 y1 (t0 + t1) (y3 + (1 : Int32)) _ _ _ h hP hS (lv_sub hl [2, 3, 1, 0] rfl)
      intro y1 y2 y3 H locs ls h hP hS hl
      have h : pX0_versesOf_bL4 vB0 vB3 (pX0_versesOf_L4 vB0 vB3 nL4) y1 y2 y3 = some q := h
      unfold pX0_versesOf_bL4 at h
      refine lv_iload_n hx hb dX0_versesOf_4 rfl (lv_at hl 3 rfl) ?_
      refine lv_aload_n hx hb dX0_versesOf_5 rfl (lv_at hl 0 rfl) ?_
      refine va_get (D := D) (ci := 0) (v := .int vB3) (C := RX0) (T := TX0) (N := 4) hx hb hts huX0 hown hK hP 0 rfl rfl 3 (by decide) (hts (.fieldLink RX0 25 "VerseColumns$Book" "verses" "I") (by decide +kernel)) (fun _ h9 => h9) rfl dX0_versesOf_6 ?_
      refine lv_icmp_ge (tgt := 38) hx hb dX0_versesOf_9 (by decide) (fun g => ?_) (fun g => ?_)
      · rw [if_pos g] at h
        refine lv_iload_n hx hb dX0_versesOf_38 rfl (lv_at hl 2 rfl) ?_
        obtain rfl := Option.some.inj h
        exact W.iret (v := y2) hx hb hr (fun t ht hW => ⟨⟨_, (), rfl, rfl, by rw [ht]; exact hP, hD⟩, hS.F ht⟩) hS.2.2 dX0_versesOf_39
      · rw [if_neg g] at h
        refine lv_iload_n hx hb dX0_versesOf_12 rfl (lv_at hl 2 rfl) ?_
        refine lv_aload_n hx hb dX0_versesOf_13 rfl (lv_at hl 0 rfl) ?_
        refine va_get (D := D) (ci := 0) (v := .ref aB.2.1) (C := RX0) (T := TX0) (N := 4) hx hb hts huX0 hown hK hP 0 rfl rfl 0 (by decide) (hts (.fieldLink RX0 9 "VerseColumns$Book" "chapters" "[I") (by decide +kernel)) (fun _ h9 => h9) rfl dX0_versesOf_14 ?_
        refine lv_iload_n hx hb dX0_versesOf_17 rfl (lv_at hl 3 rfl) ?_
        obtain ⟨q2, h1, h⟩ := Option.bind_eq_some_iff.mp h
        refine kcir [1] (va_runSN (As := [.ref aB.2.1, .int y3]) (rest := [.int y2]) ⟨hx, hb, hml, hown, hts⟩ (kX9_cellOf l D cI cC cS aB.2.1 60 vB0 y3 H.size h1) ⟨va_cnB 2 hts gX0_versesOf_X9_cellOf_n33 rfl rfl rfl (hN.m 10 rfl) (hts (.initialized RX9) (by decide +kernel)) (by decide +kernel) ⟨Nat.le_of_ble_eq_true rfl, Nat.le_of_ble_eq_true rfl⟩, hts (.static yX9_cellOf) (by decide +kernel), trivial⟩ (kpre hK hN hP hD [1] rfl (by decide)) rfl rfl hl.1 rfl (lv_room (Nat.le_of_ble_eq_true rfl)) dX0_versesOf_18 ⟨Nat.le_refl _, Nat.le_refl _⟩) hP hD hS hA rfl (fun H locs hP hS => ?_)
        refine lv_iload_n hx hb dX0_versesOf_21 rfl (lv_at hl 1 rfl) ?_
        refine lv_icmp_ne (tgt := 29) hx hb dX0_versesOf_22 (by decide) (fun g => ?_) (fun g => ?_)
        · rw [if_neg g] at h
          refine lv_iconst (v := (0 : Int32)) hx hb dX0_versesOf_29 (by decide) ?_
          exact j30 y1 y3 y2 (0 : Int32) _ _ _ h hP hS (lv_sub hl [0, 1, 3] rfl)
        · rw [if_pos g] at h
          refine lv_iconst (v := (1 : Int32)) hx hb dX0_versesOf_25 (by decide) ?_
          refine lv_goto (tgt := 30) hx hb dX0_versesOf_26 (by decide) ?_
          exact j30 y1 y3 y2 (1 : Int32) _ _ _ h hP hS (lv_sub hl [0, 1, 3] rfl)
  unfold pX0_versesOf at h
  refine lv_iconst (v := (0 : Int32)) hx hb dX0_versesOf_0 (by decide) ?_
  refine lv_istore_n (lv' := [(2, .int (0 : Int32)), (0, .ref aB.1), (1, .int i1)]) hx hb dX0_versesOf_1 rfl hl (by decide) rfl (fun ls hl => ?_)
  refine lv_iconst (v := (0 : Int32)) hx hb dX0_versesOf_2 (by decide) ?_
  refine lv_istore_n (lv' := [(3, .int (0 : Int32)), (2, .int (0 : Int32)), (0, .ref aB.1), (1, .int i1)]) hx hb dX0_versesOf_3 rfl hl (by decide) rfl (fun ls hl => ?_)
  exact L4 4000 i1 (0 : Int32) (0 : Int32) _ _ _ h hP hS (lv_sub hl [2, 3, 1, 0] rfl)
set_option maxHeartbeats 8000000 in
set_option maxRecDepth 100000 in
theorem kX0_letterSumOf (l : Launch) (D : va_G) (cI cC cS : ClassId) (aB : Nat × Nat × Nat × Nat) (vB0 : (Nat → Int32)) (vB1 : (Nat → Int32)) (vB2 : (Nat → Int32)) (vB3 : Int32) (i1 : Int32) (sz : Nat) {q : Int32} (h : pX0_letterSumOf vB0 vB1 vB3 i1 = some q) : kMi l yX0_letterSumOf wsX0_letterSumOf ({ frames := 1, cells := 0, slots := 0, locals := 21 } : Room) D (kTy cI cC cS) [.ref aB.1, .int i1] (wBK cI aB vB0 vB1 vB2 vB3) sz q (wBK cI aB vB0 vB1 vB2 vB3) := by
  refine Met.ofW (cc := cX0_letterSumOf) (maxL := 4) (ret := (some .int)) (by decide) rfl ?_
  intro p e s m args below meth c s₁ B hml hv
  obtain ⟨rfl, hsz, hP, hK, hD0, hN⟩ := hv
  have hx := B.exec
  have hb := B.bytes
  have hr := B.returns
  have hts := atoms_spec (ws := wsX0_letterSumOf) B.pre
  have hown : s.vm.findClass RX0 = some m.cls := findClass_of_methodNamed B.named
  have hlocks := B.notSynchronized
  subst hsz
  have hD := hD0.self (sz := s.heap.size)
  generalize hAe : va_A (wBK cI aB vB0 vB1 vB2 vB3) s.heap.size = A at hD ⊢
  have hA : ∀ q : Nat, s.heap.size ≤ q → A q := fun q h => by rw [← hAe]; exact Or.inr h
  have hS : va_S A s.heap s.heap [] := va_S.rf
  have huX0 : ∀ w ∈ u_ws RX0 TX0 4, w ∈ wsX0_letterSumOf := by decide +kernel
  have hl := lv_entry ([.ref aB.1, .int i1]) (n := 4) (Nat.le_of_ble_eq_true rfl)
  rw [lg_entry_eq]
  generalize (lg_sl ([.ref aB.1, .int i1]) ++ List.replicate (4 - (lg_sl ([.ref aB.1, .int i1])).length) Slot.unset).toArray = ls at hl ⊢
  have hl : lv_has ls 4 [(0, .ref aB.1), (1, .int i1)] := hl
  have L4 : ∀ (nL4 : Nat) (y1 : Int32) (y2 : Int32) (y3 : Int32) (H : Heap) (locs : List Loc) (ls : Array Slot), pX0_letterSumOf_L4 vB0 vB1 vB3 nL4 y1 y2 y3 = some q → va_P D vwCl (wBK cI aB vB0 vB1 vB2 vB3) H → va_S A s.heap H locs → lv_has ls 4 [(0, .ref aB.1), (1, .int y1), (2, .int y2), (3, .int y3)] → W p l e ({ frames := 1, cells := 0, slots := 0, locals := 21 } : Room) s m ([.ref aB.1, .int i1] : List Value).toArray below meth c H locs 0 0 (MQ below (va_Qi (fun (r : Int32) (_ : Unit) => r = q) (fun _ => kPost D (wBK cI aB vB0 vB1 vB2 vB3) A) A) ([.ref aB.1, .int i1] : List Value).toArray s 0 0 A) (F0 m 4 ls []) := by
    clear h hP hS hl
    intro nL4
    induction nL4 with
    | zero => intro y1 y2 y3 H locs ls h; have h : (none : Option (Int32)) = some q := h; cases h
    | succ nL4 ihL4 =>
      have j37 : ∀ (y1 : Int32) (y3 : Int32) (t0 : Int32) (t1 : Int32) (H : Heap) (locs : List Loc) (ls : Array Slot), pX0_letterSumOf_j37 vB0 vB1 vB3 (pX0_letterSumOf_L4 vB0 vB1 vB3 nL4) y1 y3 t0 t1 = some q → va_P D vwCl (wBK cI aB vB0 vB1 vB2 vB3) H → va_S A s.heap H locs → lv_has ls 4 [(0, .ref aB.1), (1, .int y1), (3, .int y3)] → W p l e ({ frames := 1, cells := 0, slots := 0, locals := 21 } : Room) s m ([.ref aB.1, .int i1] : List Value).toArray below meth c H locs 0 0 (MQ below (va_Qi (fun (r : Int32) (_ : Unit) => r = q) (fun _ => kPost D (wBK cI aB vB0 vB1 vB2 vB3) A) A) ([.ref aB.1, .int i1] : List Value).toArray s 0 0 A) (F0 m 37 ls [.int t1, .int t0]) := by
        skip
        intro y1 y3 t0 t1 H locs ls h hP hS hl
        unfold pX0_letterSumOf_j37 at h
        refine lv_iadd hx hb dX0_letterSumOf_37 ?_
        refine lv_istore_n (lv' := [(2, .int (t0 + t1)), (0, .ref aB.1), (1, .int y1), (3, .int y3)]) hx hb dX0_letterSumOf_38 rfl hl (by decide) rfl (fun ls hl => ?_)
        refine lv_iinc (v := (y3 + (1 : Int32))) (lv' := [(3, .int (y3 + (1 : Int32))), (2, .int (t0 + t1)), (0, .ref aB.1), (1, .int y1)]) hx hb dX0_letterSumOf_39 hl (k := 3) rfl rfl (by decide) rfl (fun ls hl => ?_)
        refine lv_goto (tgt := 4) hx hb dX0_letterSumOf_42 (by decide) ?_
        exact ihL4 y1 (t0 + t1) (y3 + (1 : Int32)) _ _ _ h hP hS (lv_sub hl [2, 3, 1, 0] rfl)
      intro y1 y2 y3 H locs ls h hP hS hl
      have h : pX0_letterSumOf_bL4 vB0 vB1 vB3 (pX0_letterSumOf_L4 vB0 vB1 vB3 nL4) y1 y2 y3 = some q := h
      unfold pX0_letterSumOf_bL4 at h
      refine lv_iload_n hx hb dX0_letterSumOf_4 rfl (lv_at hl 3 rfl) ?_
      refine lv_aload_n hx hb dX0_letterSumOf_5 rfl (lv_at hl 0 rfl) ?_
      refine va_get (D := D) (ci := 0) (v := .int vB3) (C := RX0) (T := TX0) (N := 4) hx hb hts huX0 hown hK hP 0 rfl rfl 3 (by decide) (hts (.fieldLink RX0 25 "VerseColumns$Book" "verses" "I") (by decide +kernel)) (fun _ h9 => h9) rfl dX0_letterSumOf_6 ?_
      refine lv_icmp_ge (tgt := 45) hx hb dX0_letterSumOf_9 (by decide) (fun g => ?_) (fun g => ?_)
      · rw [if_pos g] at h
        refine lv_iload_n hx hb dX0_letterSumOf_45 rfl (lv_at hl 2 rfl) ?_
        obtain rfl := Option.some.inj h
        exact W.iret (v := y2) hx hb hr (fun t ht hW => ⟨⟨_, (), rfl, rfl, by rw [ht]; exact hP, hD⟩, hS.F ht⟩) hS.2.2 dX0_letterSumOf_46
      · rw [if_neg g] at h
        refine lv_iload_n hx hb dX0_letterSumOf_12 rfl (lv_at hl 2 rfl) ?_
        refine lv_aload_n hx hb dX0_letterSumOf_13 rfl (lv_at hl 0 rfl) ?_
        refine va_get (D := D) (ci := 0) (v := .ref aB.2.1) (C := RX0) (T := TX0) (N := 4) hx hb hts huX0 hown hK hP 0 rfl rfl 0 (by decide) (hts (.fieldLink RX0 9 "VerseColumns$Book" "chapters" "[I") (by decide +kernel)) (fun _ h9 => h9) rfl dX0_letterSumOf_14 ?_
        refine lv_iload_n hx hb dX0_letterSumOf_17 rfl (lv_at hl 3 rfl) ?_
        obtain ⟨q2, h1, h⟩ := Option.bind_eq_some_iff.mp h
        refine kcir [1] (va_runSN (As := [.ref aB.2.1, .int y3]) (rest := [.int y2]) ⟨hx, hb, hml, hown, hts⟩ (kX9_cellOf l D cI cC cS aB.2.1 60 vB0 y3 H.size h1) ⟨va_cnB 2 hts gX0_letterSumOf_X9_cellOf_n33 rfl rfl rfl (hN.m 10 rfl) (hts (.initialized RX9) (by decide +kernel)) (by decide +kernel) ⟨Nat.le_of_ble_eq_true rfl, Nat.le_of_ble_eq_true rfl⟩, hts (.static yX9_cellOf) (by decide +kernel), trivial⟩ (kpre hK hN hP hD [1] rfl (by decide)) rfl rfl hl.1 rfl (lv_room (Nat.le_of_ble_eq_true rfl)) dX0_letterSumOf_18 ⟨Nat.le_refl _, Nat.le_refl _⟩) hP hD hS hA rfl (fun H locs hP hS => ?_)
        refine lv_iload_n hx hb dX0_letterSumOf_21 rfl (lv_at hl 1 rfl) ?_
        refine lv_icmp_ne (tgt := 36) hx hb dX0_letterSumOf_22 (by decide) (fun g => ?_) (fun g => ?_)
        · rw [if_neg g] at h
          refine lv_iconst (v := (0 : Int32)) hx hb dX0_letterSumOf_36 (by decide) ?_
          exact j37 y1 y3 y2 (0 : Int32) _ _ _ h hP hS (lv_sub hl [0, 1, 3] rfl)
        · rw [if_pos g] at h
          refine lv_aload_n hx hb dX0_letterSumOf_25 rfl (lv_at hl 0 rfl) ?_
          refine va_get (D := D) (ci := 0) (v := .ref aB.2.2.1) (C := RX0) (T := TX0) (N := 4) hx hb hts huX0 hown hK hP 0 rfl rfl 1 (by decide) (hts (.fieldLink RX0 15 "VerseColumns$Book" "letters" "[I") (by decide +kernel)) (fun _ h9 => h9) rfl dX0_letterSumOf_26 ?_
          refine lv_iload_n hx hb dX0_letterSumOf_29 rfl (lv_at hl 3 rfl) ?_
          obtain ⟨q4, h3, h⟩ := Option.bind_eq_some_iff.mp h
          refine kcir [2] (va_runSN (As := [.ref aB.2.2.1, .int y3]) (rest := [.int y2]) ⟨hx, hb, hml, hown, hts⟩ (kX9_cellOf l D cI cC cS aB.2.2.1 60 vB1 y3 H.size h3) ⟨va_cnB 2 hts gX0_letterSumOf_X9_cellOf_n33 rfl rfl rfl (hN.m 10 rfl) (hts (.initialized RX9) (by decide +kernel)) (by decide +kernel) ⟨Nat.le_of_ble_eq_true rfl, Nat.le_of_ble_eq_true rfl⟩, hts (.static yX9_cellOf) (by decide +kernel), trivial⟩ (kpre hK hN hP hD [2] rfl (by decide)) rfl rfl hl.1 rfl (lv_room (Nat.le_of_ble_eq_true rfl)) dX0_letterSumOf_30 ⟨Nat.le_refl _, Nat.le_refl _⟩) hP hD hS hA rfl (fun H locs hP hS => ?_)
          refine lv_goto (tgt := 37) hx hb dX0_letterSumOf_33 (by decide) ?_
          exact j37 y1 y3 y2 q4 _ _ _ h hP hS (lv_sub hl [0, 1, 3] rfl)
  unfold pX0_letterSumOf at h
  refine lv_iconst (v := (0 : Int32)) hx hb dX0_letterSumOf_0 (by decide) ?_
  refine lv_istore_n (lv' := [(2, .int (0 : Int32)), (0, .ref aB.1), (1, .int i1)]) hx hb dX0_letterSumOf_1 rfl hl (by decide) rfl (fun ls hl => ?_)
  refine lv_iconst (v := (0 : Int32)) hx hb dX0_letterSumOf_2 (by decide) ?_
  refine lv_istore_n (lv' := [(3, .int (0 : Int32)), (2, .int (0 : Int32)), (0, .ref aB.1), (1, .int i1)]) hx hb dX0_letterSumOf_3 rfl hl (by decide) rfl (fun ls hl => ?_)
  exact L4 4000 i1 (0 : Int32) (0 : Int32) _ _ _ h hP hS (lv_sub hl [2, 3, 1, 0] rfl)
set_option maxHeartbeats 8000000 in
set_option maxRecDepth 100000 in
theorem kX0_numberOf (l : Launch) (D : va_G) (cI cC cS : ClassId) (aB : Nat × Nat × Nat × Nat) (vB0 : (Nat → Int32)) (vB1 : (Nat → Int32)) (vB2 : (Nat → Int32)) (vB3 : Int32) (i1 : Int32) (sz : Nat) {q : Int32} (h : pX0_numberOf vB0 vB3 i1 = some q) : kMi l yX0_numberOf wsX0_numberOf ({ frames := 2, cells := 0, slots := 0, locals := 43 } : Room) D (kTy cI cC cS) [.ref aB.1, .int i1] (wBK cI aB vB0 vB1 vB2 vB3) sz q (wBK cI aB vB0 vB1 vB2 vB3) := by
  refine Met.ofW (cc := cX0_numberOf) (maxL := 2) (ret := (some .int)) (by decide) rfl ?_
  intro p e s m args below meth c s₁ B hml hv
  obtain ⟨rfl, hsz, hP, hK, hD0, hN⟩ := hv
  have hx := B.exec
  have hb := B.bytes
  have hr := B.returns
  have hts := atoms_spec (ws := wsX0_numberOf) B.pre
  have hown : s.vm.findClass RX0 = some m.cls := findClass_of_methodNamed B.named
  have hlocks := B.notSynchronized
  subst hsz
  have hD := hD0.self (sz := s.heap.size)
  generalize hAe : va_A (wBK cI aB vB0 vB1 vB2 vB3) s.heap.size = A at hD ⊢
  have hA : ∀ q : Nat, s.heap.size ≤ q → A q := fun q h => by rw [← hAe]; exact Or.inr h
  have hS : va_S A s.heap s.heap [] := va_S.rf
  have hl := lv_entry ([.ref aB.1, .int i1]) (n := 2) (Nat.le_of_ble_eq_true rfl)
  rw [lg_entry_eq]
  generalize (lg_sl ([.ref aB.1, .int i1]) ++ List.replicate (2 - (lg_sl ([.ref aB.1, .int i1])).length) Slot.unset).toArray = ls at hl ⊢
  have hl : lv_has ls 2 [(0, .ref aB.1), (1, .int i1)] := hl
  unfold pX0_numberOf at h
  refine lv_iload_n hx hb dX0_numberOf_0 rfl (lv_at hl 1 rfl) ?_
  refine lv_aload_n hx hb dX0_numberOf_1 rfl (lv_at hl 0 rfl) ?_
  refine lv_aload_n hx hb dX0_numberOf_2 rfl (lv_at hl 0 rfl) ?_
  refine lv_iload_n hx hb dX0_numberOf_3 rfl (lv_at hl 1 rfl) ?_
  obtain ⟨q2, h1, h⟩ := Option.bind_eq_some_iff.mp h
  refine kcir [0, 1, 2, 3] (va_runV (As := [.int i1]) (rest := [.ref aB.1, .int i1]) ⟨hx, hb, hml, hown, hts⟩ (kX0_chapterOf l D cI cC cS aB vB0 vB1 vB2 vB3 i1 s.heap.size h1) (cwV 1 hts gX0_numberOf_X0_chapterOf rfl rfl rfl (by decide +kernel) ⟨Nat.le_of_ble_eq_true rfl, Nat.le_of_ble_eq_true rfl⟩) (kpreV hK hN hP hD [0, 1, 2, 3] rfl (by decide) 0 rfl rfl) rfl rfl hl.1 rfl (lv_room (Nat.le_of_ble_eq_true rfl)) dX0_numberOf_4 ⟨Nat.le_refl _, Nat.le_refl _⟩) hP hD hS hA rfl (fun H locs hP hS => ?_)
  obtain ⟨q4, h3, h⟩ := Option.bind_eq_some_iff.mp h
  refine kcir [0, 1, 2, 3] (va_runV (As := [.int q2]) (rest := [.int i1]) ⟨hx, hb, hml, hown, hts⟩ (kX0_firstOf l D cI cC cS aB vB0 vB1 vB2 vB3 q2 H.size h3) (cwV 1 hts gX0_numberOf_X0_firstOf rfl rfl rfl (by decide +kernel) ⟨Nat.le_of_ble_eq_true rfl, Nat.le_of_ble_eq_true rfl⟩) (kpreV hK hN hP hD [0, 1, 2, 3] rfl (by decide) 0 rfl rfl) rfl rfl hl.1 rfl (lv_room (Nat.le_of_ble_eq_true rfl)) dX0_numberOf_7 ⟨Nat.le_refl _, Nat.le_refl _⟩) hP hD hS hA rfl (fun H locs hP hS => ?_)
  refine lv_isub hx hb dX0_numberOf_10 ?_
  refine lv_iconst (v := (1 : Int32)) hx hb dX0_numberOf_11 (by decide) ?_
  refine lv_iadd hx hb dX0_numberOf_12 ?_
  obtain rfl := Option.some.inj h
  exact W.iret (v := ((i1 - q4) + (1 : Int32))) hx hb hr (fun t ht hW => ⟨⟨_, (), rfl, rfl, by rw [ht]; exact hP, hD⟩, hS.F ht⟩) hS.2.2 dX0_numberOf_13
set_option maxHeartbeats 8000000 in
set_option maxRecDepth 100000 in
theorem kX0_find (l : Launch) (D : va_G) (cI cC cS : ClassId) (aB : Nat × Nat × Nat × Nat) (vB0 : (Nat → Int32)) (vB1 : (Nat → Int32)) (vB2 : (Nat → Int32)) (vB3 : Int32) (i1 : Int32) (i2 : Int32) (sz : Nat) {q : Int32} (h : pX0_find vB0 vB3 i1 i2 = some q) : kMi l yX0_find wsX0_find ({ frames := 2, cells := 0, slots := 0, locals := 44 } : Room) D (kTy cI cC cS) [.ref aB.1, .int i1, .int i2] (wBK cI aB vB0 vB1 vB2 vB3) sz q (wBK cI aB vB0 vB1 vB2 vB3) := by
  refine Met.ofW (cc := cX0_find) (maxL := 3) (ret := (some .int)) (by decide) rfl ?_
  intro p e s m args below meth c s₁ B hml hv
  obtain ⟨rfl, hsz, hP, hK, hD0, hN⟩ := hv
  have hx := B.exec
  have hb := B.bytes
  have hr := B.returns
  have hts := atoms_spec (ws := wsX0_find) B.pre
  have hown : s.vm.findClass RX0 = some m.cls := findClass_of_methodNamed B.named
  have hlocks := B.notSynchronized
  subst hsz
  have hD := hD0.self (sz := s.heap.size)
  generalize hAe : va_A (wBK cI aB vB0 vB1 vB2 vB3) s.heap.size = A at hD ⊢
  have hA : ∀ q : Nat, s.heap.size ≤ q → A q := fun q h => by rw [← hAe]; exact Or.inr h
  have hS : va_S A s.heap s.heap [] := va_S.rf
  have hl := lv_entry ([.ref aB.1, .int i1, .int i2]) (n := 3) (Nat.le_of_ble_eq_true rfl)
  rw [lg_entry_eq]
  generalize (lg_sl ([.ref aB.1, .int i1, .int i2]) ++ List.replicate (3 - (lg_sl ([.ref aB.1, .int i1, .int i2])).length) Slot.unset).toArray = ls at hl ⊢
  have hl : lv_has ls 3 [(0, .ref aB.1), (1, .int i1), (2, .int i2)] := hl
  unfold pX0_find at h
  refine lv_iload_n hx hb dX0_find_0 rfl (lv_at hl 2 rfl) ?_
  refine lv_iconst (v := (1 : Int32)) hx hb dX0_find_1 (by decide) ?_
  refine lv_aload_n hx hb dX0_find_2 rfl (lv_at hl 0 rfl) ?_
  refine lv_iload_n hx hb dX0_find_3 rfl (lv_at hl 1 rfl) ?_
  obtain ⟨q2, h1, h⟩ := Option.bind_eq_some_iff.mp h
  refine kcir [0, 1, 2, 3] (va_runV (As := [.int i1]) (rest := [.int (1 : Int32), .int i2]) ⟨hx, hb, hml, hown, hts⟩ (kX0_versesOf l D cI cC cS aB vB0 vB1 vB2 vB3 i1 s.heap.size h1) (cwV 1 hts gX0_find_X0_versesOf rfl rfl rfl (by decide +kernel) ⟨Nat.le_of_ble_eq_true rfl, Nat.le_of_ble_eq_true rfl⟩) (kpreV hK hN hP hD [0, 1, 2, 3] rfl (by decide) 0 rfl rfl) rfl rfl hl.1 rfl (lv_room (Nat.le_of_ble_eq_true rfl)) dX0_find_4 ⟨Nat.le_refl _, Nat.le_refl _⟩) hP hD hS hA rfl (fun H locs hP hS => ?_)
  obtain ⟨q4, h3, h⟩ := Option.bind_eq_some_iff.mp h
  refine kcir [] (va_runSN (As := [.int i2, .int (1 : Int32), .int q2]) (rest := []) ⟨hx, hb, hml, hown, hts⟩ (kX9_isWithin l D cI cC cS i2 (1 : Int32) q2 H.size h3) ⟨va_cnB 3 hts gX0_find_X9_isWithin_n47 rfl rfl rfl (hN.m 21 rfl) (hts (.initialized RX9) (by decide +kernel)) (by decide +kernel) ⟨Nat.le_of_ble_eq_true rfl, Nat.le_of_ble_eq_true rfl⟩, hts (.static yX9_isWithin) (by decide +kernel), trivial⟩ (kpre hK hN hP hD [] rfl (by decide)) rfl rfl hl.1 rfl (lv_room (Nat.le_of_ble_eq_true rfl)) dX0_find_7 ⟨Nat.le_refl _, Nat.le_refl _⟩) hP hD hS hA rfl (fun H locs hP hS => ?_)
  refine lv_if_eq (tgt := 25) hx hb dX0_find_10 (by decide) (fun g => ?_) (fun g => ?_)
  · rw [if_pos g] at h
    refine lv_iconst (v := (-1 : Int32)) hx hb dX0_find_25 (by decide) ?_
    obtain rfl := Option.some.inj h
    exact W.iret (v := (-1 : Int32)) hx hb hr (fun t ht hW => ⟨⟨_, (), rfl, rfl, by rw [ht]; exact hP, hD⟩, hS.F ht⟩) hS.2.2 dX0_find_26
  · rw [if_neg g] at h
    refine lv_aload_n hx hb dX0_find_13 rfl (lv_at hl 0 rfl) ?_
    refine lv_iload_n hx hb dX0_find_14 rfl (lv_at hl 1 rfl) ?_
    obtain ⟨q6, h5, h⟩ := Option.bind_eq_some_iff.mp h
    refine kcir [0, 1, 2, 3] (va_runV (As := [.int i1]) (rest := []) ⟨hx, hb, hml, hown, hts⟩ (kX0_firstOf l D cI cC cS aB vB0 vB1 vB2 vB3 i1 H.size h5) (cwV 1 hts gX0_find_X0_firstOf rfl rfl rfl (by decide +kernel) ⟨Nat.le_of_ble_eq_true rfl, Nat.le_of_ble_eq_true rfl⟩) (kpreV hK hN hP hD [0, 1, 2, 3] rfl (by decide) 0 rfl rfl) rfl rfl hl.1 rfl (lv_room (Nat.le_of_ble_eq_true rfl)) dX0_find_15 ⟨Nat.le_refl _, Nat.le_refl _⟩) hP hD hS hA rfl (fun H locs hP hS => ?_)
    refine lv_iload_n hx hb dX0_find_18 rfl (lv_at hl 2 rfl) ?_
    refine lv_iadd hx hb dX0_find_19 ?_
    refine lv_iconst (v := (1 : Int32)) hx hb dX0_find_20 (by decide) ?_
    refine lv_isub hx hb dX0_find_21 ?_
    refine lv_goto (tgt := 26) hx hb dX0_find_22 (by decide) ?_
    obtain rfl := Option.some.inj h
    exact W.iret (v := ((q6 + i2) - (1 : Int32))) hx hb hr (fun t ht hW => ⟨⟨_, (), rfl, rfl, by rw [ht]; exact hP, hD⟩, hS.F ht⟩) hS.2.2 dX0_find_26
set_option maxHeartbeats 8000000 in
set_option maxRecDepth 100000 in
theorem kX0_put (l : Launch) (D : va_G) (cI cC cS : ClassId) (aB : Nat × Nat × Nat × Nat) (vB0 : (Nat → Int32)) (vB1 : (Nat → Int32)) (vB2 : (Nat → Int32)) (vB3 : Int32) (i1 : Int32) (i2 : Int32) (i3 : Int32) (sz : Nat) {q : (Nat → Int32) × (Nat → Int32)} (h : pX0_put vB1 vB2 vB3 i1 i2 i3 = some q) : kMv l yX0_put wsX0_put ({ frames := 1, cells := 0, slots := 0, locals := 21 } : Room) D (kTy cI cC cS) [.ref aB.1, .int i1, .int i2, .int i3] (wBK cI aB vB0 vB1 vB2 vB3) sz (wBK cI aB vB0 q.1 q.2 vB3) := by
  refine Met.ofW (cc := cX0_put) (maxL := 4) (ret := none) (by decide) rfl ?_
  intro p e s m args below meth c s₁ B hml hv
  obtain ⟨rfl, hsz, hP, hK, hD0, hN⟩ := hv
  have hx := B.exec
  have hb := B.bytes
  have hr := B.returns
  have hts := atoms_spec (ws := wsX0_put) B.pre
  have hown : s.vm.findClass RX0 = some m.cls := findClass_of_methodNamed B.named
  have hlocks := B.notSynchronized
  subst hsz
  have hD := hD0.self (sz := s.heap.size)
  generalize hAe : va_A (wBK cI aB vB0 vB1 vB2 vB3) s.heap.size = A at hD ⊢
  have hA : ∀ q : Nat, s.heap.size ≤ q → A q := fun q h => by rw [← hAe]; exact Or.inr h
  have hS : va_S A s.heap s.heap [] := va_S.rf
  have huX0 : ∀ w ∈ u_ws RX0 TX0 4, w ∈ wsX0_put := by decide +kernel
  have hl := lv_entry ([.ref aB.1, .int i1, .int i2, .int i3]) (n := 4) (Nat.le_of_ble_eq_true rfl)
  rw [lg_entry_eq]
  generalize (lg_sl ([.ref aB.1, .int i1, .int i2, .int i3]) ++ List.replicate (4 - (lg_sl ([.ref aB.1, .int i1, .int i2, .int i3])).length) Slot.unset).toArray = ls at hl ⊢
  have hl : lv_has ls 4 [(0, .ref aB.1), (1, .int i1), (2, .int i2), (3, .int i3)] := hl
  unfold pX0_put at h
  refine lv_aload_n hx hb dX0_put_0 rfl (lv_at hl 0 rfl) ?_
  refine lv_iload_n hx hb dX0_put_1 rfl (lv_at hl 1 rfl) ?_
  obtain ⟨q2, h1, h⟩ := Option.bind_eq_some_iff.mp h
  refine kcir [0, 1, 2, 3] (va_runV (As := [.int i1]) (rest := []) ⟨hx, hb, hml, hown, hts⟩ (kX0_has l D cI cC cS aB vB0 vB1 vB2 vB3 i1 s.heap.size h1) (cwV 1 hts gX0_put_X0_has rfl rfl rfl (by decide +kernel) ⟨Nat.le_of_ble_eq_true rfl, Nat.le_of_ble_eq_true rfl⟩) (kpreV hK hN hP hD [0, 1, 2, 3] rfl (by decide) 0 rfl rfl) rfl rfl hl.1 rfl (lv_room (Nat.le_of_ble_eq_true rfl)) dX0_put_2 ⟨Nat.le_refl _, Nat.le_refl _⟩) hP hD hS hA rfl (fun H locs hP hS => ?_)
  refine lv_if_eq (tgt := 28) hx hb dX0_put_5 (by decide) (fun g => ?_) (fun g => ?_)
  · rw [if_pos g] at h
    obtain rfl := Option.some.inj h
    exact W.vret hx hb hr (fun t ht hW => ⟨⟨(), rfl, trivial, by rw [ht]; exact hP, hD⟩, hS.F ht⟩) hS.2.2 dX0_put_28
  · rw [if_neg g] at h
    refine lv_iload_n hx hb dX0_put_8 rfl (lv_at hl 1 rfl) ?_
    refine lv_bipush (v := (60 : Int32)) hx hb dX0_put_9 (by decide) ?_
    refine lv_icmp_ge (tgt := 28) hx hb dX0_put_11 (by decide) (fun g => ?_) (fun g => ?_)
    · rw [if_pos g] at h
      obtain rfl := Option.some.inj h
      exact W.vret hx hb hr (fun t ht hW => ⟨⟨(), rfl, trivial, by rw [ht]; exact hP, hD⟩, hS.F ht⟩) hS.2.2 dX0_put_28
    · rw [if_neg g] at h
      refine lv_aload_n hx hb dX0_put_14 rfl (lv_at hl 0 rfl) ?_
      refine va_get (D := D) (ci := 0) (v := .ref aB.2.2.1) (C := RX0) (T := TX0) (N := 4) hx hb hts huX0 hown hK hP 0 rfl rfl 1 (by decide) (hts (.fieldLink RX0 15 "VerseColumns$Book" "letters" "[I") (by decide +kernel)) (fun _ h9 => h9) rfl dX0_put_15 ?_
      refine lv_iload_n hx hb dX0_put_18 rfl (lv_at hl 1 rfl) ?_
      refine lv_iload_n hx hb dX0_put_19 rfl (lv_at hl 2 rfl) ?_
      obtain ⟨g, h⟩ := kif h
      refine va_iast hx hb hK hP hD hS 2 0 rfl rfl (kin g) dX0_put_20 (fun H locs hP hD hS => ?_)
      have hP : va_P D vwCl (wBK cI aB vB0 (upd vB1 i1.toNatClampNeg i2) vB2 vB3) H := hP
      have hD : va_D A (wBK cI aB vB0 (upd vB1 i1.toNatClampNeg i2) vB2 vB3) := hD
      refine lv_aload_n hx hb dX0_put_21 rfl (lv_at hl 0 rfl) ?_
      refine va_get (D := D) (ci := 0) (v := .ref aB.2.2.2) (C := RX0) (T := TX0) (N := 4) hx hb hts huX0 hown hK hP 0 rfl rfl 2 (by decide) (hts (.fieldLink RX0 18 "VerseColumns$Book" "notes" "[I") (by decide +kernel)) (fun _ h9 => h9) rfl dX0_put_22 ?_
      refine lv_iload_n hx hb dX0_put_25 rfl (lv_at hl 1 rfl) ?_
      refine lv_iload_n hx hb dX0_put_26 rfl (lv_at hl 3 rfl) ?_
      obtain ⟨g, h⟩ := kif h
      refine va_iast hx hb hK hP hD hS 3 0 rfl rfl (kin g) dX0_put_27 (fun H locs hP hD hS => ?_)
      have hP : va_P D vwCl (wBK cI aB vB0 (upd vB1 i1.toNatClampNeg i2) (upd vB2 i1.toNatClampNeg i3) vB3) H := hP
      have hD : va_D A (wBK cI aB vB0 (upd vB1 i1.toNatClampNeg i2) (upd vB2 i1.toNatClampNeg i3) vB3) := hD
      obtain rfl := Option.some.inj h
      exact W.vret hx hb hr (fun t ht hW => ⟨⟨(), rfl, trivial, by rw [ht]; exact hP, hD⟩, hS.F ht⟩) hS.2.2 dX0_put_28
set_option maxHeartbeats 8000000 in
set_option maxRecDepth 100000 in
theorem kX0_insertAt (l : Launch) (D : va_G) (cI cC cS : ClassId) (aB : Nat × Nat × Nat × Nat) (vB0 : (Nat → Int32)) (vB1 : (Nat → Int32)) (vB2 : (Nat → Int32)) (vB3 : Int32) (i1 : Int32) (i2 : Int32) (i3 : Int32) (i4 : Int32) (sz : Nat) {q : (Nat → Int32) × (Nat → Int32) × (Nat → Int32) × Int32} (h : pX0_insertAt vB0 vB1 vB2 vB3 i1 i2 i3 i4 = some q) : kMv l yX0_insertAt wsX0_insertAt ({ frames := 2, cells := 0, slots := 0, locals := 62 } : Room) D (kTy cI cC cS) [.ref aB.1, .int i1, .int i2, .int i3, .int i4] (wBK cI aB vB0 vB1 vB2 vB3) sz (wBK cI aB q.1 q.2.1 q.2.2.1 q.2.2.2) := by
  refine Met.ofW (cc := cX0_insertAt) (maxL := 5) (ret := none) (by decide) rfl ?_
  intro p e s m args below meth c s₁ B hml hv
  obtain ⟨rfl, hsz, hP, hK, hD0, hN⟩ := hv
  have hx := B.exec
  have hb := B.bytes
  have hr := B.returns
  have hts := atoms_spec (ws := wsX0_insertAt) B.pre
  have hown : s.vm.findClass RX0 = some m.cls := findClass_of_methodNamed B.named
  have hlocks := B.notSynchronized
  subst hsz
  have hD := hD0.self (sz := s.heap.size)
  generalize hAe : va_A (wBK cI aB vB0 vB1 vB2 vB3) s.heap.size = A at hD ⊢
  have hA : ∀ q : Nat, s.heap.size ≤ q → A q := fun q h => by rw [← hAe]; exact Or.inr h
  have hS : va_S A s.heap s.heap [] := va_S.rf
  have huX0 : ∀ w ∈ u_ws RX0 TX0 4, w ∈ wsX0_insertAt := by decide +kernel
  have hl := lv_entry ([.ref aB.1, .int i1, .int i2, .int i3, .int i4]) (n := 5) (Nat.le_of_ble_eq_true rfl)
  rw [lg_entry_eq]
  generalize (lg_sl ([.ref aB.1, .int i1, .int i2, .int i3, .int i4]) ++ List.replicate (5 - (lg_sl ([.ref aB.1, .int i1, .int i2, .int i3, .int i4])).length) Slot.unset).toArray = ls at hl ⊢
  have hl : lv_has ls 5 [(0, .ref aB.1), (1, .int i1), (2, .int i2), (3, .int i3), (4, .int i4)] := hl
  unfold pX0_insertAt at h
  refine lv_iload_n hx hb dX0_insertAt_0 rfl (lv_at hl 1 rfl) ?_
  refine lv_if_lt (tgt := 21) hx hb dX0_insertAt_1 (by decide) (fun g => ?_) (fun g => ?_)
  · rw [if_pos g] at h
    obtain rfl := Option.some.inj h
    exact W.vret hx hb hr (fun t ht hW => ⟨⟨(), rfl, trivial, by rw [ht]; exact hP, hD⟩, hS.F ht⟩) hS.2.2 dX0_insertAt_21
  · rw [if_neg g] at h
    refine lv_iload_n hx hb dX0_insertAt_4 rfl (lv_at hl 1 rfl) ?_
    refine lv_aload_n hx hb dX0_insertAt_5 rfl (lv_at hl 0 rfl) ?_
    refine va_get (D := D) (ci := 0) (v := .int vB3) (C := RX0) (T := TX0) (N := 4) hx hb hts huX0 hown hK hP 0 rfl rfl 3 (by decide) (hts (.fieldLink RX0 25 "VerseColumns$Book" "verses" "I") (by decide +kernel)) (fun _ h9 => h9) rfl dX0_insertAt_6 ?_
    refine lv_icmp_gt (tgt := 21) hx hb dX0_insertAt_9 (by decide) (fun g => ?_) (fun g => ?_)
    · rw [if_pos g] at h
      obtain rfl := Option.some.inj h
      exact W.vret hx hb hr (fun t ht hW => ⟨⟨(), rfl, trivial, by rw [ht]; exact hP, hD⟩, hS.F ht⟩) hS.2.2 dX0_insertAt_21
    · rw [if_neg g] at h
      refine lv_aload_n hx hb dX0_insertAt_12 rfl (lv_at hl 0 rfl) ?_
      refine va_get (D := D) (ci := 0) (v := .int vB3) (C := RX0) (T := TX0) (N := 4) hx hb hts huX0 hown hK hP 0 rfl rfl 3 (by decide) (hts (.fieldLink RX0 25 "VerseColumns$Book" "verses" "I") (by decide +kernel)) (fun _ h9 => h9) rfl dX0_insertAt_13 ?_
      refine lv_bipush (v := (60 : Int32)) hx hb dX0_insertAt_16 (by decide) ?_
      refine lv_icmp_lt (tgt := 22) hx hb dX0_insertAt_18 (by decide) (fun g => ?_) (fun g => ?_)
      · rw [if_pos g] at h
        refine lv_aload_n hx hb dX0_insertAt_22 rfl (lv_at hl 0 rfl) ?_
        refine va_get (D := D) (ci := 0) (v := .ref aB.2.1) (C := RX0) (T := TX0) (N := 4) hx hb hts huX0 hown hK hP 0 rfl rfl 0 (by decide) (hts (.fieldLink RX0 9 "VerseColumns$Book" "chapters" "[I") (by decide +kernel)) (fun _ h9 => h9) rfl dX0_insertAt_23 ?_
        refine lv_iload_n hx hb dX0_insertAt_26 rfl (lv_at hl 1 rfl) ?_
        refine lv_aload_n hx hb dX0_insertAt_27 rfl (lv_at hl 0 rfl) ?_
        refine va_get (D := D) (ci := 0) (v := .int vB3) (C := RX0) (T := TX0) (N := 4) hx hb hts huX0 hown hK hP 0 rfl rfl 3 (by decide) (hts (.fieldLink RX0 25 "VerseColumns$Book" "verses" "I") (by decide +kernel)) (fun _ h9 => h9) rfl dX0_insertAt_28 ?_
        obtain ⟨q2, h1, h⟩ := Option.bind_eq_some_iff.mp h
        refine kcvw (ws' := (wBK cI aB q2 vB1 vB2 vB3)) [1] (va_runSN (As := [.ref aB.2.1, .int i1, .int vB3]) (rest := []) ⟨hx, hb, hml, hown, hts⟩ (kX9_openCell l D cI cC cS aB.2.1 60 vB0 i1 vB3 s.heap.size h1) ⟨va_cnB 3 hts gX0_insertAt_X9_openCell_n51 rfl rfl rfl (hN.m 14 rfl) (hts (.initialized RX9) (by decide +kernel)) (by decide +kernel) ⟨Nat.le_of_ble_eq_true rfl, Nat.le_of_ble_eq_true rfl⟩, hts (.static yX9_openCell) (by decide +kernel), trivial⟩ (kpre hK hN hP hD [1] rfl (by decide)) rfl rfl hl.1 rfl (lv_room (Nat.le_of_ble_eq_true rfl)) dX0_insertAt_31 ⟨Nat.le_refl _, Nat.le_refl _⟩) hP hD hS hA rfl (by decide) rfl [0, 1, 0, 0] (by decide +kernel) rfl (fun H locs hP hD hS => ?_)
        refine lv_aload_n hx hb dX0_insertAt_34 rfl (lv_at hl 0 rfl) ?_
        refine va_get (D := D) (ci := 0) (v := .ref aB.2.2.1) (C := RX0) (T := TX0) (N := 4) hx hb hts huX0 hown hK hP 0 rfl rfl 1 (by decide) (hts (.fieldLink RX0 15 "VerseColumns$Book" "letters" "[I") (by decide +kernel)) (fun _ h9 => h9) rfl dX0_insertAt_35 ?_
        refine lv_iload_n hx hb dX0_insertAt_38 rfl (lv_at hl 1 rfl) ?_
        refine lv_aload_n hx hb dX0_insertAt_39 rfl (lv_at hl 0 rfl) ?_
        refine va_get (D := D) (ci := 0) (v := .int vB3) (C := RX0) (T := TX0) (N := 4) hx hb hts huX0 hown hK hP 0 rfl rfl 3 (by decide) (hts (.fieldLink RX0 25 "VerseColumns$Book" "verses" "I") (by decide +kernel)) (fun _ h9 => h9) rfl dX0_insertAt_40 ?_
        obtain ⟨q4, h3, h⟩ := Option.bind_eq_some_iff.mp h
        refine kcvw (ws' := (wBK cI aB q2 q4 vB2 vB3)) [2] (va_runSN (As := [.ref aB.2.2.1, .int i1, .int vB3]) (rest := []) ⟨hx, hb, hml, hown, hts⟩ (kX9_openCell l D cI cC cS aB.2.2.1 60 vB1 i1 vB3 H.size h3) ⟨va_cnB 3 hts gX0_insertAt_X9_openCell_n51 rfl rfl rfl (hN.m 14 rfl) (hts (.initialized RX9) (by decide +kernel)) (by decide +kernel) ⟨Nat.le_of_ble_eq_true rfl, Nat.le_of_ble_eq_true rfl⟩, hts (.static yX9_openCell) (by decide +kernel), trivial⟩ (kpre hK hN hP hD [2] rfl (by decide)) rfl rfl hl.1 rfl (lv_room (Nat.le_of_ble_eq_true rfl)) dX0_insertAt_43 ⟨Nat.le_refl _, Nat.le_refl _⟩) hP hD hS hA rfl (by decide) rfl [0, 0, 1, 0] (by decide +kernel) rfl (fun H locs hP hD hS => ?_)
        refine lv_aload_n hx hb dX0_insertAt_46 rfl (lv_at hl 0 rfl) ?_
        refine va_get (D := D) (ci := 0) (v := .ref aB.2.2.2) (C := RX0) (T := TX0) (N := 4) hx hb hts huX0 hown hK hP 0 rfl rfl 2 (by decide) (hts (.fieldLink RX0 18 "VerseColumns$Book" "notes" "[I") (by decide +kernel)) (fun _ h9 => h9) rfl dX0_insertAt_47 ?_
        refine lv_iload_n hx hb dX0_insertAt_50 rfl (lv_at hl 1 rfl) ?_
        refine lv_aload_n hx hb dX0_insertAt_51 rfl (lv_at hl 0 rfl) ?_
        refine va_get (D := D) (ci := 0) (v := .int vB3) (C := RX0) (T := TX0) (N := 4) hx hb hts huX0 hown hK hP 0 rfl rfl 3 (by decide) (hts (.fieldLink RX0 25 "VerseColumns$Book" "verses" "I") (by decide +kernel)) (fun _ h9 => h9) rfl dX0_insertAt_52 ?_
        obtain ⟨q6, h5, h⟩ := Option.bind_eq_some_iff.mp h
        refine kcvw (ws' := (wBK cI aB q2 q4 q6 vB3)) [3] (va_runSN (As := [.ref aB.2.2.2, .int i1, .int vB3]) (rest := []) ⟨hx, hb, hml, hown, hts⟩ (kX9_openCell l D cI cC cS aB.2.2.2 60 vB2 i1 vB3 H.size h5) ⟨va_cnB 3 hts gX0_insertAt_X9_openCell_n51 rfl rfl rfl (hN.m 14 rfl) (hts (.initialized RX9) (by decide +kernel)) (by decide +kernel) ⟨Nat.le_of_ble_eq_true rfl, Nat.le_of_ble_eq_true rfl⟩, hts (.static yX9_openCell) (by decide +kernel), trivial⟩ (kpre hK hN hP hD [3] rfl (by decide)) rfl rfl hl.1 rfl (lv_room (Nat.le_of_ble_eq_true rfl)) dX0_insertAt_55 ⟨Nat.le_refl _, Nat.le_refl _⟩) hP hD hS hA rfl (by decide) rfl [0, 0, 0, 1] (by decide +kernel) rfl (fun H locs hP hD hS => ?_)
        refine lv_aload_n hx hb dX0_insertAt_58 rfl (lv_at hl 0 rfl) ?_
        refine lv_dup hx hb dX0_insertAt_59 rfl ?_
        refine va_get (D := D) (ci := 0) (v := .int vB3) (C := RX0) (T := TX0) (N := 4) hx hb hts huX0 hown hK hP 0 rfl rfl 3 (by decide) (hts (.fieldLink RX0 25 "VerseColumns$Book" "verses" "I") (by decide +kernel)) (fun _ h9 => h9) rfl dX0_insertAt_60 ?_
        refine lv_iconst (v := (1 : Int32)) hx hb dX0_insertAt_63 (by decide) ?_
        refine lv_iadd hx hb dX0_insertAt_64 ?_
        refine va_put (D := D) (ci := 0) (v := .int (vB3 + (1 : Int32))) (ty := .int) (C := RX0) (T := TX0) (N := 4) hx hb hts huX0 tyX0 tyX0_ok nmX0 hown hK hP hD hS 0 rfl rfl 3 (by decide) (hts (.fieldLink RX0 25 "VerseColumns$Book" "verses" "I") (by decide +kernel)) (fun _ h9 => h9) rfl (by decide +kernel) rfl rfl (Nat.le_of_ble_eq_true rfl) dX0_insertAt_65 (fun H locs hP hD hS => ?_)
        have hP : va_P D vwCl (wBK cI aB q2 q4 q6 (vB3 + (1 : Int32))) H := hP
        have hD : va_D A (wBK cI aB q2 q4 q6 (vB3 + (1 : Int32))) := hD
        refine lv_aload_n hx hb dX0_insertAt_68 rfl (lv_at hl 0 rfl) ?_
        refine va_get (D := D) (ci := 0) (v := .ref aB.2.1) (C := RX0) (T := TX0) (N := 4) hx hb hts huX0 hown hK hP 0 rfl rfl 0 (by decide) (hts (.fieldLink RX0 9 "VerseColumns$Book" "chapters" "[I") (by decide +kernel)) (fun _ h9 => h9) rfl dX0_insertAt_69 ?_
        refine lv_iload_n hx hb dX0_insertAt_72 rfl (lv_at hl 1 rfl) ?_
        refine lv_iload_n hx hb dX0_insertAt_73 rfl (lv_at hl 2 rfl) ?_
        obtain ⟨g, h⟩ := kif h
        refine va_iast hx hb hK hP hD hS 1 0 rfl rfl (kin g) dX0_insertAt_74 (fun H locs hP hD hS => ?_)
        have hP : va_P D vwCl (wBK cI aB (upd q2 i1.toNatClampNeg i2) q4 q6 (vB3 + (1 : Int32))) H := hP
        have hD : va_D A (wBK cI aB (upd q2 i1.toNatClampNeg i2) q4 q6 (vB3 + (1 : Int32))) := hD
        refine lv_aload_n hx hb dX0_insertAt_75 rfl (lv_at hl 0 rfl) ?_
        refine lv_iload_n hx hb dX0_insertAt_76 rfl (lv_at hl 1 rfl) ?_
        refine lv_iload_n hx hb dX0_insertAt_77 rfl (lv_at hl 3 rfl) ?_
        refine lv_iload hx hb dX0_insertAt_78 (lv_at hl 4 rfl) ?_
        obtain ⟨q8, h7, h⟩ := Option.bind_eq_some_iff.mp h
        refine kcvw (ws' := (wBK cI aB (upd q2 i1.toNatClampNeg i2) q8.1 q8.2 (vB3 + (1 : Int32)))) [0, 1, 2, 3] (va_runV (As := [.int i1, .int i3, .int i4]) (rest := []) ⟨hx, hb, hml, hown, hts⟩ (kX0_put l D cI cC cS aB (upd q2 i1.toNatClampNeg i2) q4 q6 (vB3 + (1 : Int32)) i1 i3 i4 H.size h7) (cwV 3 hts gX0_insertAt_X0_put rfl rfl rfl (by decide +kernel) ⟨Nat.le_of_ble_eq_true rfl, Nat.le_of_ble_eq_true rfl⟩) (kpreV hK hN hP hD [0, 1, 2, 3] rfl (by decide) 0 rfl rfl) rfl rfl hl.1 rfl (lv_room (Nat.le_of_ble_eq_true rfl)) dX0_insertAt_80 ⟨Nat.le_refl _, Nat.le_refl _⟩) hP hD hS hA rfl (by decide) rfl [1, 2, 3, 4] (by decide +kernel) rfl (fun H locs hP hD hS => ?_)
        obtain rfl := Option.some.inj h
        exact W.vret hx hb hr (fun t ht hW => ⟨⟨(), rfl, trivial, by rw [ht]; exact hP, hD⟩, hS.F ht⟩) hS.2.2 dX0_insertAt_83
      · rw [if_neg g] at h
        obtain rfl := Option.some.inj h
        exact W.vret hx hb hr (fun t ht hW => ⟨⟨(), rfl, trivial, by rw [ht]; exact hP, hD⟩, hS.F ht⟩) hS.2.2 dX0_insertAt_21
set_option maxHeartbeats 8000000 in
set_option maxRecDepth 100000 in
theorem kX0_joinWithNext (l : Launch) (D : va_G) (cI cC cS : ClassId) (aB : Nat × Nat × Nat × Nat) (vB0 : (Nat → Int32)) (vB1 : (Nat → Int32)) (vB2 : (Nat → Int32)) (vB3 : Int32) (i1 : Int32) (sz : Nat) {q : (Nat → Int32) × (Nat → Int32) × (Nat → Int32) × Int32} (h : pX0_joinWithNext vB0 vB1 vB2 vB3 i1 = some q) : kMv l yX0_joinWithNext wsX0_joinWithNext ({ frames := 2, cells := 0, slots := 0, locals := 63 } : Room) D (kTy cI cC cS) [.ref aB.1, .int i1] (wBK cI aB vB0 vB1 vB2 vB3) sz (wBK cI aB q.1 q.2.1 q.2.2.1 q.2.2.2) := by
  refine Met.ofW (cc := cX0_joinWithNext) (maxL := 5) (ret := none) (by decide) rfl ?_
  intro p e s m args below meth c s₁ B hml hv
  obtain ⟨rfl, hsz, hP, hK, hD0, hN⟩ := hv
  have hx := B.exec
  have hb := B.bytes
  have hr := B.returns
  have hts := atoms_spec (ws := wsX0_joinWithNext) B.pre
  have hown : s.vm.findClass RX0 = some m.cls := findClass_of_methodNamed B.named
  have hlocks := B.notSynchronized
  subst hsz
  have hD := hD0.self (sz := s.heap.size)
  generalize hAe : va_A (wBK cI aB vB0 vB1 vB2 vB3) s.heap.size = A at hD ⊢
  have hA : ∀ q : Nat, s.heap.size ≤ q → A q := fun q h => by rw [← hAe]; exact Or.inr h
  have hS : va_S A s.heap s.heap [] := va_S.rf
  have huX0 : ∀ w ∈ u_ws RX0 TX0 4, w ∈ wsX0_joinWithNext := by decide +kernel
  have hl := lv_entry ([.ref aB.1, .int i1]) (n := 5) (Nat.le_of_ble_eq_true rfl)
  rw [lg_entry_eq]
  generalize (lg_sl ([.ref aB.1, .int i1]) ++ List.replicate (5 - (lg_sl ([.ref aB.1, .int i1])).length) Slot.unset).toArray = ls at hl ⊢
  have hl : lv_has ls 5 [(0, .ref aB.1), (1, .int i1)] := hl
  unfold pX0_joinWithNext at h
  refine lv_iload_n hx hb dX0_joinWithNext_0 rfl (lv_at hl 1 rfl) ?_
  refine lv_iconst (v := (1 : Int32)) hx hb dX0_joinWithNext_1 (by decide) ?_
  refine lv_iadd hx hb dX0_joinWithNext_2 ?_
  refine lv_istore_n (lv' := [(2, .int (i1 + (1 : Int32))), (0, .ref aB.1), (1, .int i1)]) hx hb dX0_joinWithNext_3 rfl hl (by decide) rfl (fun ls hl => ?_)
  refine lv_aload_n hx hb dX0_joinWithNext_4 rfl (lv_at hl 1 rfl) ?_
  refine lv_iload_n hx hb dX0_joinWithNext_5 rfl (lv_at hl 2 rfl) ?_
  obtain ⟨q2, h1, h⟩ := Option.bind_eq_some_iff.mp h
  refine kcir [0, 1, 2, 3] (va_runV (As := [.int i1]) (rest := []) ⟨hx, hb, hml, hown, hts⟩ (kX0_has l D cI cC cS aB vB0 vB1 vB2 vB3 i1 s.heap.size h1) (cwV 1 hts gX0_joinWithNext_X0_has rfl rfl rfl (by decide +kernel) ⟨Nat.le_of_ble_eq_true rfl, Nat.le_of_ble_eq_true rfl⟩) (kpreV hK hN hP hD [0, 1, 2, 3] rfl (by decide) 0 rfl rfl) rfl rfl hl.1 rfl (lv_room (Nat.le_of_ble_eq_true rfl)) dX0_joinWithNext_6 ⟨Nat.le_refl _, Nat.le_refl _⟩) hP hD hS hA rfl (fun H locs hP hS => ?_)
  refine lv_if_eq (tgt := 20) hx hb dX0_joinWithNext_9 (by decide) (fun g => ?_) (fun g => ?_)
  · rw [if_pos g] at h
    obtain rfl := Option.some.inj h
    exact W.vret hx hb hr (fun t ht hW => ⟨⟨(), rfl, trivial, by rw [ht]; exact hP, hD⟩, hS.F ht⟩) hS.2.2 dX0_joinWithNext_20
  · rw [if_neg g] at h
    refine lv_aload_n hx hb dX0_joinWithNext_12 rfl (lv_at hl 1 rfl) ?_
    refine lv_iload_n hx hb dX0_joinWithNext_13 rfl (lv_at hl 0 rfl) ?_
    obtain ⟨q4, h3, h⟩ := Option.bind_eq_some_iff.mp h
    refine kcir [0, 1, 2, 3] (va_runV (As := [.int (i1 + (1 : Int32))]) (rest := []) ⟨hx, hb, hml, hown, hts⟩ (kX0_has l D cI cC cS aB vB0 vB1 vB2 vB3 (i1 + (1 : Int32)) H.size h3) (cwV 1 hts gX0_joinWithNext_X0_has rfl rfl rfl (by decide +kernel) ⟨Nat.le_of_ble_eq_true rfl, Nat.le_of_ble_eq_true rfl⟩) (kpreV hK hN hP hD [0, 1, 2, 3] rfl (by decide) 0 rfl rfl) rfl rfl hl.1 rfl (lv_room (Nat.le_of_ble_eq_true rfl)) dX0_joinWithNext_14 ⟨Nat.le_refl _, Nat.le_refl _⟩) hP hD hS hA rfl (fun H locs hP hS => ?_)
    refine lv_if_ne (tgt := 21) hx hb dX0_joinWithNext_17 (by decide) (fun g => ?_) (fun g => ?_)
    · rw [if_neg g] at h
      refine lv_aload_n hx hb dX0_joinWithNext_21 rfl (lv_at hl 1 rfl) ?_
      refine lv_iload_n hx hb dX0_joinWithNext_22 rfl (lv_at hl 2 rfl) ?_
      obtain ⟨q6, h5, h⟩ := Option.bind_eq_some_iff.mp h
      refine kcir [0, 1, 2, 3] (va_runV (As := [.int i1]) (rest := []) ⟨hx, hb, hml, hown, hts⟩ (kX0_lettersOf l D cI cC cS aB vB0 vB1 vB2 vB3 i1 H.size h5) (cwV 1 hts gX0_joinWithNext_X0_lettersOf rfl rfl rfl (by decide +kernel) ⟨Nat.le_of_ble_eq_true rfl, Nat.le_of_ble_eq_true rfl⟩) (kpreV hK hN hP hD [0, 1, 2, 3] rfl (by decide) 0 rfl rfl) rfl rfl hl.1 rfl (lv_room (Nat.le_of_ble_eq_true rfl)) dX0_joinWithNext_23 ⟨Nat.le_refl _, Nat.le_refl _⟩) hP hD hS hA rfl (fun H locs hP hS => ?_)
      refine lv_aload_n hx hb dX0_joinWithNext_26 rfl (lv_at hl 1 rfl) ?_
      refine lv_iload_n hx hb dX0_joinWithNext_27 rfl (lv_at hl 0 rfl) ?_
      obtain ⟨q8, h7, h⟩ := Option.bind_eq_some_iff.mp h
      refine kcir [0, 1, 2, 3] (va_runV (As := [.int (i1 + (1 : Int32))]) (rest := [.int q6]) ⟨hx, hb, hml, hown, hts⟩ (kX0_lettersOf l D cI cC cS aB vB0 vB1 vB2 vB3 (i1 + (1 : Int32)) H.size h7) (cwV 1 hts gX0_joinWithNext_X0_lettersOf rfl rfl rfl (by decide +kernel) ⟨Nat.le_of_ble_eq_true rfl, Nat.le_of_ble_eq_true rfl⟩) (kpreV hK hN hP hD [0, 1, 2, 3] rfl (by decide) 0 rfl rfl) rfl rfl hl.1 rfl (lv_room (Nat.le_of_ble_eq_true rfl)) dX0_joinWithNext_28 ⟨Nat.le_refl _, Nat.le_refl _⟩) hP hD hS hA rfl (fun H locs hP hS => ?_)
      refine lv_iadd hx hb dX0_joinWithNext_31 ?_
      refine lv_istore_n (lv' := [(3, .int (q6 + q8)), (2, .int (i1 + (1 : Int32))), (0, .ref aB.1), (1, .int i1)]) hx hb dX0_joinWithNext_32 rfl hl (by decide) rfl (fun ls hl => ?_)
      refine lv_aload_n hx hb dX0_joinWithNext_33 rfl (lv_at hl 2 rfl) ?_
      refine lv_iload_n hx hb dX0_joinWithNext_34 rfl (lv_at hl 3 rfl) ?_
      obtain ⟨q10, h9, h⟩ := Option.bind_eq_some_iff.mp h
      refine kcir [0, 1, 2, 3] (va_runV (As := [.int i1]) (rest := []) ⟨hx, hb, hml, hown, hts⟩ (kX0_noteOf l D cI cC cS aB vB0 vB1 vB2 vB3 i1 H.size h9) (cwV 1 hts gX0_joinWithNext_X0_noteOf rfl rfl rfl (by decide +kernel) ⟨Nat.le_of_ble_eq_true rfl, Nat.le_of_ble_eq_true rfl⟩) (kpreV hK hN hP hD [0, 1, 2, 3] rfl (by decide) 0 rfl rfl) rfl rfl hl.1 rfl (lv_room (Nat.le_of_ble_eq_true rfl)) dX0_joinWithNext_35 ⟨Nat.le_refl _, Nat.le_refl _⟩) hP hD hS hA rfl (fun H locs hP hS => ?_)
      refine lv_aload_n hx hb dX0_joinWithNext_38 rfl (lv_at hl 2 rfl) ?_
      refine lv_iload_n hx hb dX0_joinWithNext_39 rfl (lv_at hl 1 rfl) ?_
      obtain ⟨q12, h11, h⟩ := Option.bind_eq_some_iff.mp h
      refine kcir [0, 1, 2, 3] (va_runV (As := [.int (i1 + (1 : Int32))]) (rest := [.int q10]) ⟨hx, hb, hml, hown, hts⟩ (kX0_noteOf l D cI cC cS aB vB0 vB1 vB2 vB3 (i1 + (1 : Int32)) H.size h11) (cwV 1 hts gX0_joinWithNext_X0_noteOf rfl rfl rfl (by decide +kernel) ⟨Nat.le_of_ble_eq_true rfl, Nat.le_of_ble_eq_true rfl⟩) (kpreV hK hN hP hD [0, 1, 2, 3] rfl (by decide) 0 rfl rfl) rfl rfl hl.1 rfl (lv_room (Nat.le_of_ble_eq_true rfl)) dX0_joinWithNext_40 ⟨Nat.le_refl _, Nat.le_refl _⟩) hP hD hS hA rfl (fun H locs hP hS => ?_)
      refine lv_iadd hx hb dX0_joinWithNext_43 ?_
      refine lv_istore (lv' := [(4, .int (q10 + q12)), (3, .int (q6 + q8)), (2, .int (i1 + (1 : Int32))), (0, .ref aB.1), (1, .int i1)]) hx hb dX0_joinWithNext_44 hl (by decide) rfl (fun ls hl => ?_)
      refine lv_aload_n hx hb dX0_joinWithNext_46 rfl (lv_at hl 3 rfl) ?_
      refine lv_iload_n hx hb dX0_joinWithNext_47 rfl (lv_at hl 4 rfl) ?_
      refine lv_iload_n hx hb dX0_joinWithNext_48 rfl (lv_at hl 1 rfl) ?_
      refine lv_sipush (v := (2000 : Int32)) hx hb dX0_joinWithNext_49 (by decide) ?_
      refine va_mmin hx hb (hml.trans hl.1.symm) hown (hts (.methodLink RX0 65 Lib.Math.min.name) (by decide +kernel)) (hts (.static Lib.Math.min.name) (by decide +kernel)) (hts (.initialized "java/lang/Math") (by decide +kernel)) (hts (.code Lib.Math.min.name Lib.Math.min.code 2 (some .int)) (by decide +kernel)) (Nat.le_of_ble_eq_true rfl) (Nat.le_of_ble_eq_true rfl) (Nat.le_refl _) (Nat.le_refl _) dX0_joinWithNext_52 ?_
      refine lv_iload hx hb dX0_joinWithNext_55 (lv_at hl 0 rfl) ?_
      refine lv_bipush (v := (10 : Int32)) hx hb dX0_joinWithNext_57 (by decide) ?_
      refine va_mmin hx hb (hml.trans hl.1.symm) hown (hts (.methodLink RX0 65 Lib.Math.min.name) (by decide +kernel)) (hts (.static Lib.Math.min.name) (by decide +kernel)) (hts (.initialized "java/lang/Math") (by decide +kernel)) (hts (.code Lib.Math.min.name Lib.Math.min.code 2 (some .int)) (by decide +kernel)) (Nat.le_of_ble_eq_true rfl) (Nat.le_of_ble_eq_true rfl) (Nat.le_refl _) (Nat.le_refl _) dX0_joinWithNext_59 ?_
      obtain ⟨q14, h13, h⟩ := Option.bind_eq_some_iff.mp h
      refine kcvw (ws' := (wBK cI aB vB0 q14.1 q14.2 vB3)) [0, 1, 2, 3] (va_runV (As := [.int i1, .int (if (2000 : Int32) < (q6 + q8) then (2000 : Int32) else (q6 + q8)), .int (if (10 : Int32) < (q10 + q12) then (10 : Int32) else (q10 + q12))]) (rest := []) ⟨hx, hb, hml, hown, hts⟩ (kX0_put l D cI cC cS aB vB0 vB1 vB2 vB3 i1 (if (2000 : Int32) < (q6 + q8) then (2000 : Int32) else (q6 + q8)) (if (10 : Int32) < (q10 + q12) then (10 : Int32) else (q10 + q12)) H.size h13) (cwV 3 hts gX0_joinWithNext_X0_put rfl rfl rfl (by decide +kernel) ⟨Nat.le_of_ble_eq_true rfl, Nat.le_of_ble_eq_true rfl⟩) (kpreV hK hN hP hD [0, 1, 2, 3] rfl (by decide) 0 rfl rfl) rfl rfl hl.1 rfl (lv_room (Nat.le_of_ble_eq_true rfl)) dX0_joinWithNext_62 ⟨Nat.le_refl _, Nat.le_refl _⟩) hP hD hS hA rfl (by decide) rfl [1, 2, 3, 4] (by decide +kernel) rfl (fun H locs hP hD hS => ?_)
      refine lv_aload_n hx hb dX0_joinWithNext_65 rfl (lv_at hl 3 rfl) ?_
      refine va_get (D := D) (ci := 0) (v := .ref aB.2.1) (C := RX0) (T := TX0) (N := 4) hx hb hts huX0 hown hK hP 0 rfl rfl 0 (by decide) (hts (.fieldLink RX0 9 "VerseColumns$Book" "chapters" "[I") (by decide +kernel)) (fun _ h9 => h9) rfl dX0_joinWithNext_66 ?_
      refine lv_iload_n hx hb dX0_joinWithNext_69 rfl (lv_at hl 2 rfl) ?_
      refine lv_iconst (v := (1 : Int32)) hx hb dX0_joinWithNext_70 (by decide) ?_
      refine lv_aload_n hx hb dX0_joinWithNext_71 rfl (lv_at hl 3 rfl) ?_
      refine va_get (D := D) (ci := 0) (v := .int vB3) (C := RX0) (T := TX0) (N := 4) hx hb hts huX0 hown hK hP 0 rfl rfl 3 (by decide) (hts (.fieldLink RX0 25 "VerseColumns$Book" "verses" "I") (by decide +kernel)) (fun _ h9 => h9) rfl dX0_joinWithNext_72 ?_
      obtain ⟨q16, h15, h⟩ := Option.bind_eq_some_iff.mp h
      refine kcvw (ws' := (wBK cI aB q16 q14.1 q14.2 vB3)) [1] (va_runSN (As := [.ref aB.2.1, .int (i1 + (1 : Int32)), .int (1 : Int32), .int vB3]) (rest := []) ⟨hx, hb, hml, hown, hts⟩ (kX9_closeCells l D cI cC cS aB.2.1 60 vB0 (i1 + (1 : Int32)) (1 : Int32) vB3 H.size h15) ⟨va_cnB 4 hts gX0_joinWithNext_X9_closeCells_n71 rfl rfl rfl (hN.m 23 rfl) (hts (.initialized RX9) (by decide +kernel)) (by decide +kernel) ⟨Nat.le_of_ble_eq_true rfl, Nat.le_of_ble_eq_true rfl⟩, hts (.static yX9_closeCells) (by decide +kernel), trivial⟩ (kpre hK hN hP hD [1] rfl (by decide)) rfl rfl hl.1 rfl (lv_room (Nat.le_of_ble_eq_true rfl)) dX0_joinWithNext_75 ⟨Nat.le_refl _, Nat.le_refl _⟩) hP hD hS hA rfl (by decide) rfl [0, 1, 0, 0] (by decide +kernel) rfl (fun H locs hP hD hS => ?_)
      refine lv_aload_n hx hb dX0_joinWithNext_78 rfl (lv_at hl 3 rfl) ?_
      refine va_get (D := D) (ci := 0) (v := .ref aB.2.2.1) (C := RX0) (T := TX0) (N := 4) hx hb hts huX0 hown hK hP 0 rfl rfl 1 (by decide) (hts (.fieldLink RX0 15 "VerseColumns$Book" "letters" "[I") (by decide +kernel)) (fun _ h9 => h9) rfl dX0_joinWithNext_79 ?_
      refine lv_iload_n hx hb dX0_joinWithNext_82 rfl (lv_at hl 2 rfl) ?_
      refine lv_iconst (v := (1 : Int32)) hx hb dX0_joinWithNext_83 (by decide) ?_
      refine lv_aload_n hx hb dX0_joinWithNext_84 rfl (lv_at hl 3 rfl) ?_
      refine va_get (D := D) (ci := 0) (v := .int vB3) (C := RX0) (T := TX0) (N := 4) hx hb hts huX0 hown hK hP 0 rfl rfl 3 (by decide) (hts (.fieldLink RX0 25 "VerseColumns$Book" "verses" "I") (by decide +kernel)) (fun _ h9 => h9) rfl dX0_joinWithNext_85 ?_
      obtain ⟨q18, h17, h⟩ := Option.bind_eq_some_iff.mp h
      refine kcvw (ws' := (wBK cI aB q16 q18 q14.2 vB3)) [2] (va_runSN (As := [.ref aB.2.2.1, .int (i1 + (1 : Int32)), .int (1 : Int32), .int vB3]) (rest := []) ⟨hx, hb, hml, hown, hts⟩ (kX9_closeCells l D cI cC cS aB.2.2.1 60 q14.1 (i1 + (1 : Int32)) (1 : Int32) vB3 H.size h17) ⟨va_cnB 4 hts gX0_joinWithNext_X9_closeCells_n71 rfl rfl rfl (hN.m 23 rfl) (hts (.initialized RX9) (by decide +kernel)) (by decide +kernel) ⟨Nat.le_of_ble_eq_true rfl, Nat.le_of_ble_eq_true rfl⟩, hts (.static yX9_closeCells) (by decide +kernel), trivial⟩ (kpre hK hN hP hD [2] rfl (by decide)) rfl rfl hl.1 rfl (lv_room (Nat.le_of_ble_eq_true rfl)) dX0_joinWithNext_88 ⟨Nat.le_refl _, Nat.le_refl _⟩) hP hD hS hA rfl (by decide) rfl [0, 0, 1, 0] (by decide +kernel) rfl (fun H locs hP hD hS => ?_)
      refine lv_aload_n hx hb dX0_joinWithNext_91 rfl (lv_at hl 3 rfl) ?_
      refine va_get (D := D) (ci := 0) (v := .ref aB.2.2.2) (C := RX0) (T := TX0) (N := 4) hx hb hts huX0 hown hK hP 0 rfl rfl 2 (by decide) (hts (.fieldLink RX0 18 "VerseColumns$Book" "notes" "[I") (by decide +kernel)) (fun _ h9 => h9) rfl dX0_joinWithNext_92 ?_
      refine lv_iload_n hx hb dX0_joinWithNext_95 rfl (lv_at hl 2 rfl) ?_
      refine lv_iconst (v := (1 : Int32)) hx hb dX0_joinWithNext_96 (by decide) ?_
      refine lv_aload_n hx hb dX0_joinWithNext_97 rfl (lv_at hl 3 rfl) ?_
      refine va_get (D := D) (ci := 0) (v := .int vB3) (C := RX0) (T := TX0) (N := 4) hx hb hts huX0 hown hK hP 0 rfl rfl 3 (by decide) (hts (.fieldLink RX0 25 "VerseColumns$Book" "verses" "I") (by decide +kernel)) (fun _ h9 => h9) rfl dX0_joinWithNext_98 ?_
      obtain ⟨q20, h19, h⟩ := Option.bind_eq_some_iff.mp h
      refine kcvw (ws' := (wBK cI aB q16 q18 q20 vB3)) [3] (va_runSN (As := [.ref aB.2.2.2, .int (i1 + (1 : Int32)), .int (1 : Int32), .int vB3]) (rest := []) ⟨hx, hb, hml, hown, hts⟩ (kX9_closeCells l D cI cC cS aB.2.2.2 60 q14.2 (i1 + (1 : Int32)) (1 : Int32) vB3 H.size h19) ⟨va_cnB 4 hts gX0_joinWithNext_X9_closeCells_n71 rfl rfl rfl (hN.m 23 rfl) (hts (.initialized RX9) (by decide +kernel)) (by decide +kernel) ⟨Nat.le_of_ble_eq_true rfl, Nat.le_of_ble_eq_true rfl⟩, hts (.static yX9_closeCells) (by decide +kernel), trivial⟩ (kpre hK hN hP hD [3] rfl (by decide)) rfl rfl hl.1 rfl (lv_room (Nat.le_of_ble_eq_true rfl)) dX0_joinWithNext_101 ⟨Nat.le_refl _, Nat.le_refl _⟩) hP hD hS hA rfl (by decide) rfl [0, 0, 0, 1] (by decide +kernel) rfl (fun H locs hP hD hS => ?_)
      refine lv_aload_n hx hb dX0_joinWithNext_104 rfl (lv_at hl 3 rfl) ?_
      refine lv_dup hx hb dX0_joinWithNext_105 rfl ?_
      refine va_get (D := D) (ci := 0) (v := .int vB3) (C := RX0) (T := TX0) (N := 4) hx hb hts huX0 hown hK hP 0 rfl rfl 3 (by decide) (hts (.fieldLink RX0 25 "VerseColumns$Book" "verses" "I") (by decide +kernel)) (fun _ h9 => h9) rfl dX0_joinWithNext_106 ?_
      refine lv_iconst (v := (1 : Int32)) hx hb dX0_joinWithNext_109 (by decide) ?_
      refine lv_isub hx hb dX0_joinWithNext_110 ?_
      refine va_put (D := D) (ci := 0) (v := .int (vB3 - (1 : Int32))) (ty := .int) (C := RX0) (T := TX0) (N := 4) hx hb hts huX0 tyX0 tyX0_ok nmX0 hown hK hP hD hS 0 rfl rfl 3 (by decide) (hts (.fieldLink RX0 25 "VerseColumns$Book" "verses" "I") (by decide +kernel)) (fun _ h9 => h9) rfl (by decide +kernel) rfl rfl (Nat.le_of_ble_eq_true rfl) dX0_joinWithNext_111 (fun H locs hP hD hS => ?_)
      have hP : va_P D vwCl (wBK cI aB q16 q18 q20 (vB3 - (1 : Int32))) H := hP
      have hD : va_D A (wBK cI aB q16 q18 q20 (vB3 - (1 : Int32))) := hD
      obtain rfl := Option.some.inj h
      exact W.vret hx hb hr (fun t ht hW => ⟨⟨(), rfl, trivial, by rw [ht]; exact hP, hD⟩, hS.F ht⟩) hS.2.2 dX0_joinWithNext_114
    · rw [if_pos g] at h
      obtain rfl := Option.some.inj h
      exact W.vret hx hb hr (fun t ht hW => ⟨⟨(), rfl, trivial, by rw [ht]; exact hP, hD⟩, hS.F ht⟩) hS.2.2 dX0_joinWithNext_20
set_option maxHeartbeats 8000000 in
set_option maxRecDepth 100000 in
theorem kX0_splitBehind (l : Launch) (D : va_G) (cI cC cS : ClassId) (aB : Nat × Nat × Nat × Nat) (vB0 : (Nat → Int32)) (vB1 : (Nat → Int32)) (vB2 : (Nat → Int32)) (vB3 : Int32) (i1 : Int32) (i2 : Int32) (sz : Nat) {q : (Nat → Int32) × (Nat → Int32) × (Nat → Int32) × Int32} (h : pX0_splitBehind vB0 vB1 vB2 vB3 i1 i2 = some q) : kMv l yX0_splitBehind wsX0_splitBehind ({ frames := 3, cells := 0, slots := 0, locals := 86 } : Room) D (kTy cI cC cS) [.ref aB.1, .int i1, .int i2] (wBK cI aB vB0 vB1 vB2 vB3) sz (wBK cI aB q.1 q.2.1 q.2.2.1 q.2.2.2) := by
  refine Met.ofW (cc := cX0_splitBehind) (maxL := 4) (ret := none) (by decide) rfl ?_
  intro p e s m args below meth c s₁ B hml hv
  obtain ⟨rfl, hsz, hP, hK, hD0, hN⟩ := hv
  have hx := B.exec
  have hb := B.bytes
  have hr := B.returns
  have hts := atoms_spec (ws := wsX0_splitBehind) B.pre
  have hown : s.vm.findClass RX0 = some m.cls := findClass_of_methodNamed B.named
  have hlocks := B.notSynchronized
  subst hsz
  have hD := hD0.self (sz := s.heap.size)
  generalize hAe : va_A (wBK cI aB vB0 vB1 vB2 vB3) s.heap.size = A at hD ⊢
  have hA : ∀ q : Nat, s.heap.size ≤ q → A q := fun q h => by rw [← hAe]; exact Or.inr h
  have hS : va_S A s.heap s.heap [] := va_S.rf
  have hl := lv_entry ([.ref aB.1, .int i1, .int i2]) (n := 4) (Nat.le_of_ble_eq_true rfl)
  rw [lg_entry_eq]
  generalize (lg_sl ([.ref aB.1, .int i1, .int i2]) ++ List.replicate (4 - (lg_sl ([.ref aB.1, .int i1, .int i2])).length) Slot.unset).toArray = ls at hl ⊢
  have hl : lv_has ls 4 [(0, .ref aB.1), (1, .int i1), (2, .int i2)] := hl
  unfold pX0_splitBehind at h
  refine lv_aload_n hx hb dX0_splitBehind_0 rfl (lv_at hl 0 rfl) ?_
  refine lv_iload_n hx hb dX0_splitBehind_1 rfl (lv_at hl 1 rfl) ?_
  obtain ⟨q2, h1, h⟩ := Option.bind_eq_some_iff.mp h
  refine kcir [0, 1, 2, 3] (va_runV (As := [.int i1]) (rest := []) ⟨hx, hb, hml, hown, hts⟩ (kX0_lettersOf l D cI cC cS aB vB0 vB1 vB2 vB3 i1 s.heap.size h1) (cwV 1 hts gX0_splitBehind_X0_lettersOf rfl rfl rfl (by decide +kernel) ⟨Nat.le_of_ble_eq_true rfl, Nat.le_of_ble_eq_true rfl⟩) (kpreV hK hN hP hD [0, 1, 2, 3] rfl (by decide) 0 rfl rfl) rfl rfl hl.1 rfl (lv_room (Nat.le_of_ble_eq_true rfl)) dX0_splitBehind_2 ⟨Nat.le_refl _, Nat.le_refl _⟩) hP hD hS hA rfl (fun H locs hP hS => ?_)
  refine lv_iload_n hx hb dX0_splitBehind_5 rfl (lv_at hl 2 rfl) ?_
  refine lv_isub hx hb dX0_splitBehind_6 ?_
  refine lv_istore_n (lv' := [(3, .int (q2 - i2)), (0, .ref aB.1), (1, .int i1), (2, .int i2)]) hx hb dX0_splitBehind_7 rfl hl (by decide) rfl (fun ls hl => ?_)
  refine lv_aload_n hx hb dX0_splitBehind_8 rfl (lv_at hl 1 rfl) ?_
  refine lv_iload_n hx hb dX0_splitBehind_9 rfl (lv_at hl 2 rfl) ?_
  refine lv_iload_n hx hb dX0_splitBehind_10 rfl (lv_at hl 3 rfl) ?_
  refine lv_aload_n hx hb dX0_splitBehind_11 rfl (lv_at hl 1 rfl) ?_
  refine lv_iload_n hx hb dX0_splitBehind_12 rfl (lv_at hl 2 rfl) ?_
  obtain ⟨q4, h3, h⟩ := Option.bind_eq_some_iff.mp h
  refine kcir [0, 1, 2, 3] (va_runV (As := [.int i1]) (rest := [.int i2, .int i1, .ref aB.1]) ⟨hx, hb, hml, hown, hts⟩ (kX0_noteOf l D cI cC cS aB vB0 vB1 vB2 vB3 i1 H.size h3) (cwV 1 hts gX0_splitBehind_X0_noteOf rfl rfl rfl (by decide +kernel) ⟨Nat.le_of_ble_eq_true rfl, Nat.le_of_ble_eq_true rfl⟩) (kpreV hK hN hP hD [0, 1, 2, 3] rfl (by decide) 0 rfl rfl) rfl rfl hl.1 rfl (lv_room (Nat.le_of_ble_eq_true rfl)) dX0_splitBehind_13 ⟨Nat.le_refl _, Nat.le_refl _⟩) hP hD hS hA rfl (fun H locs hP hS => ?_)
  obtain ⟨q6, h5, h⟩ := Option.bind_eq_some_iff.mp h
  refine kcvw (ws' := (wBK cI aB vB0 q6.1 q6.2 vB3)) [0, 1, 2, 3] (va_runV (As := [.int i1, .int i2, .int q4]) (rest := []) ⟨hx, hb, hml, hown, hts⟩ (kX0_put l D cI cC cS aB vB0 vB1 vB2 vB3 i1 i2 q4 H.size h5) (cwV 3 hts gX0_splitBehind_X0_put rfl rfl rfl (by decide +kernel) ⟨Nat.le_of_ble_eq_true rfl, Nat.le_of_ble_eq_true rfl⟩) (kpreV hK hN hP hD [0, 1, 2, 3] rfl (by decide) 0 rfl rfl) rfl rfl hl.1 rfl (lv_room (Nat.le_of_ble_eq_true rfl)) dX0_splitBehind_16 ⟨Nat.le_refl _, Nat.le_refl _⟩) hP hD hS hA rfl (by decide) rfl [1, 2, 3, 4] (by decide +kernel) rfl (fun H locs hP hD hS => ?_)
  refine lv_aload_n hx hb dX0_splitBehind_19 rfl (lv_at hl 1 rfl) ?_
  refine lv_iload_n hx hb dX0_splitBehind_20 rfl (lv_at hl 2 rfl) ?_
  refine lv_iconst (v := (1 : Int32)) hx hb dX0_splitBehind_21 (by decide) ?_
  refine lv_iadd hx hb dX0_splitBehind_22 ?_
  refine lv_aload_n hx hb dX0_splitBehind_23 rfl (lv_at hl 1 rfl) ?_
  refine lv_iload_n hx hb dX0_splitBehind_24 rfl (lv_at hl 2 rfl) ?_
  obtain ⟨q8, h7, h⟩ := Option.bind_eq_some_iff.mp h
  refine kcir [0, 1, 2, 3] (va_runV (As := [.int i1]) (rest := [.int (i1 + (1 : Int32)), .ref aB.1]) ⟨hx, hb, hml, hown, hts⟩ (kX0_chapterOf l D cI cC cS aB vB0 q6.1 q6.2 vB3 i1 H.size h7) (cwV 1 hts gX0_splitBehind_X0_chapterOf rfl rfl rfl (by decide +kernel) ⟨Nat.le_of_ble_eq_true rfl, Nat.le_of_ble_eq_true rfl⟩) (kpreV hK hN hP hD [0, 1, 2, 3] rfl (by decide) 0 rfl rfl) rfl rfl hl.1 rfl (lv_room (Nat.le_of_ble_eq_true rfl)) dX0_splitBehind_25 ⟨Nat.le_refl _, Nat.le_refl _⟩) hP hD hS hA rfl (fun H locs hP hS => ?_)
  refine lv_iload_n hx hb dX0_splitBehind_28 rfl (lv_at hl 0 rfl) ?_
  refine lv_iconst (v := (0 : Int32)) hx hb dX0_splitBehind_29 (by decide) ?_
  obtain ⟨q10, h9, h⟩ := Option.bind_eq_some_iff.mp h
  refine kcvw (ws' := (wBK cI aB q10.1 q10.2.1 q10.2.2.1 q10.2.2.2)) [0, 1, 2, 3] (va_runV (As := [.int (i1 + (1 : Int32)), .int q8, .int (q2 - i2), .int (0 : Int32)]) (rest := []) ⟨hx, hb, hml, hown, hts⟩ (kX0_insertAt l D cI cC cS aB vB0 q6.1 q6.2 vB3 (i1 + (1 : Int32)) q8 (q2 - i2) (0 : Int32) H.size h9) (cwV 4 hts gX0_splitBehind_X0_insertAt rfl rfl rfl (by decide +kernel) ⟨Nat.le_of_ble_eq_true rfl, Nat.le_of_ble_eq_true rfl⟩) (kpreV hK hN hP hD [0, 1, 2, 3] rfl (by decide) 0 rfl rfl) rfl rfl hl.1 rfl (lv_room (Nat.le_of_ble_eq_true rfl)) dX0_splitBehind_30 ⟨Nat.le_refl _, Nat.le_refl _⟩) hP hD hS hA rfl (by decide) rfl [1, 2, 3, 4] (by decide +kernel) rfl (fun H locs hP hD hS => ?_)
  obtain rfl := Option.some.inj h
  exact W.vret hx hb hr (fun t ht hW => ⟨⟨(), rfl, trivial, by rw [ht]; exact hP, hD⟩, hS.F ht⟩) hS.2.2 dX0_splitBehind_33
set_option maxHeartbeats 8000000 in
set_option maxRecDepth 100000 in
theorem kX0_linesOf (l : Launch) (D : va_G) (cI cC cS : ClassId) (aB : Nat × Nat × Nat × Nat) (vB0 : (Nat → Int32)) (vB1 : (Nat → Int32)) (vB2 : (Nat → Int32)) (vB3 : Int32) (i1 : Int32) (i2 : Int32) (i3 : Int32) (i4 : Int32) (sz : Nat) {q : Int32} (h : pX0_linesOf vB0 vB1 vB3 i1 i2 i3 i4 = some q) : kMi l yX0_linesOf wsX0_linesOf ({ frames := 3, cells := 0, slots := 0, locals := 63 } : Room) D (kTy cI cC cS) [.ref aB.1, .int i1, .int i2, .int i3, .int i4] (wBK cI aB vB0 vB1 vB2 vB3) sz q (wBK cI aB vB0 vB1 vB2 vB3) := by
  refine Met.ofW (cc := cX0_linesOf) (maxL := 7) (ret := (some .int)) (by decide) rfl ?_
  intro p e s m args below meth c s₁ B hml hv
  obtain ⟨rfl, hsz, hP, hK, hD0, hN⟩ := hv
  have hx := B.exec
  have hb := B.bytes
  have hr := B.returns
  have hts := atoms_spec (ws := wsX0_linesOf) B.pre
  have hown : s.vm.findClass RX0 = some m.cls := findClass_of_methodNamed B.named
  have hlocks := B.notSynchronized
  subst hsz
  have hD := hD0.self (sz := s.heap.size)
  generalize hAe : va_A (wBK cI aB vB0 vB1 vB2 vB3) s.heap.size = A at hD ⊢
  have hA : ∀ q : Nat, s.heap.size ≤ q → A q := fun q h => by rw [← hAe]; exact Or.inr h
  have hS : va_S A s.heap s.heap [] := va_S.rf
  have hl := lv_entry ([.ref aB.1, .int i1, .int i2, .int i3, .int i4]) (n := 7) (Nat.le_of_ble_eq_true rfl)
  rw [lg_entry_eq]
  generalize (lg_sl ([.ref aB.1, .int i1, .int i2, .int i3, .int i4]) ++ List.replicate (7 - (lg_sl ([.ref aB.1, .int i1, .int i2, .int i3, .int i4])).length) Slot.unset).toArray = ls at hl ⊢
  have hl : lv_has ls 7 [(0, .ref aB.1), (1, .int i1), (2, .int i2), (3, .int i3), (4, .int i4)] := hl
  have L6 : ∀ (nL6 : Nat) (y2 : Int32) (y3 : Int32) (y4 : Int32) (y5 : Int32) (y6 : Int32) (H : Heap) (locs : List Loc) (ls : Array Slot), pX0_linesOf_L6 vB0 vB1 vB3 nL6 y2 y3 y4 y5 y6 = some q → va_P D vwCl (wBK cI aB vB0 vB1 vB2 vB3) H → va_S A s.heap H locs → lv_has ls 7 [(0, .ref aB.1), (2, .int y2), (3, .int y3), (4, .int y4), (5, .int y5), (6, .int y6)] → W p l e ({ frames := 3, cells := 0, slots := 0, locals := 63 } : Room) s m ([.ref aB.1, .int i1, .int i2, .int i3, .int i4] : List Value).toArray below meth c H locs 0 0 (MQ below (va_Qi (fun (r : Int32) (_ : Unit) => r = q) (fun _ => kPost D (wBK cI aB vB0 vB1 vB2 vB3) A) A) ([.ref aB.1, .int i1, .int i2, .int i3, .int i4] : List Value).toArray s 0 0 A) (F0 m 6 ls []) := by
    clear h hP hS hl
    intro nL6
    induction nL6 with
    | zero => intro y2 y3 y4 y5 y6 H locs ls h; have h : (none : Option (Int32)) = some q := h; cases h
    | succ nL6 ihL6 =>
      have j39 : ∀ (y2 : Int32) (y3 : Int32) (y4 : Int32) (y6 : Int32) (t0 : Int32) (t1 : Int32) (t2 : Int32) (H : Heap) (locs : List Loc) (ls : Array Slot), pX0_linesOf_j39 vB0 vB1 vB3 (pX0_linesOf_L6 vB0 vB1 vB3 nL6) y2 y3 y4 y6 t0 t1 t2 = some q → va_P D vwCl (wBK cI aB vB0 vB1 vB2 vB3) H → va_S A s.heap H locs → lv_has ls 7 [(0, .ref aB.1), (2, .int y2), (3, .int y3), (4, .int y4), (6, .int y6)] → W p l e ({ frames := 3, cells := 0, slots := 0, locals := 63 } : Room) s m ([.ref aB.1, .int i1, .int i2, .int i3, .int i4] : List Value).toArray below meth c H locs 0 0 (MQ below (va_Qi (fun (r : Int32) (_ : Unit) => r = q) (fun _ => kPost D (wBK cI aB vB0 vB1 vB2 vB3) A) A) ([.ref aB.1, .int i1, .int i2, .int i3, .int i4] : List Value).toArray s 0 0 A) (F0 m 39 ls [.int t2, .int t1, .int t0]) := by
        skip
        intro y2 y3 y4 y6 t0 t1 t2 H locs ls h hP hS hl
        unfold pX0_linesOf_j39 at h
        refine lv_iadd hx hb dX0_linesOf_39 ?_
        refine lv_iadd hx hb dX0_linesOf_40 ?_
        refine lv_istore (lv' := [(5, .int (t0 + (t1 + t2))), (0, .ref aB.1), (2, .int y2), (3, .int y3), (4, .int y4), (6, .int y6)]) hx hb dX0_linesOf_41 hl (by decide) rfl (fun ls hl => ?_)
        refine lv_iinc (v := (y6 + (1 : Int32))) (lv' := [(6, .int (y6 + (1 : Int32))), (5, .int (t0 + (t1 + t2))), (0, .ref aB.1), (2, .int y2), (3, .int y3), (4, .int y4)]) hx hb dX0_linesOf_43 hl (k := 5) rfl rfl (by decide) rfl (fun ls hl => ?_)
        refine lv_goto (tgt := 6) hx hb dX0_linesOf_46 (by decide) ?_
        exact ihL6 y2 y3 y4 (t0 + (t1 + t2)) (y6 + (1 : Int32)) _ _ _ h hP hS (lv_sub hl [2, 3, 4, 5, 1, 0] rfl)
      intro y2 y3 y4 y5 y6 H locs ls h hP hS hl
      have h : pX0_linesOf_bL6 vB0 vB1 vB3 (pX0_linesOf_L6 vB0 vB1 vB3 nL6) y2 y3 y4 y5 y6 = some q := h
      unfold pX0_linesOf_bL6 at h
      refine lv_iload hx hb dX0_linesOf_6 (lv_at hl 5 rfl) ?_
      refine lv_iload_n hx hb dX0_linesOf_8 rfl (lv_at hl 1 rfl) ?_
      refine lv_icmp_ge (tgt := 49) hx hb dX0_linesOf_9 (by decide) (fun g => ?_) (fun g => ?_)
      · rw [if_pos g] at h
        refine lv_iload hx hb dX0_linesOf_49 (lv_at hl 4 rfl) ?_
        obtain rfl := Option.some.inj h
        exact W.iret (v := y5) hx hb hr (fun t ht hW => ⟨⟨_, (), rfl, rfl, by rw [ht]; exact hP, hD⟩, hS.F ht⟩) hS.2.2 dX0_linesOf_51
      · rw [if_neg g] at h
        refine lv_iload hx hb dX0_linesOf_12 (lv_at hl 4 rfl) ?_
        refine lv_aload_n hx hb dX0_linesOf_14 rfl (lv_at hl 0 rfl) ?_
        refine lv_iload hx hb dX0_linesOf_15 (lv_at hl 5 rfl) ?_
        obtain ⟨q2, h1, h⟩ := Option.bind_eq_some_iff.mp h
        refine kcir [0, 1, 2, 3] (va_runV (As := [.int y6]) (rest := [.int y5]) ⟨hx, hb, hml, hown, hts⟩ (kX0_lettersOf l D cI cC cS aB vB0 vB1 vB2 vB3 y6 H.size h1) (cwV 1 hts gX0_linesOf_X0_lettersOf rfl rfl rfl (by decide +kernel) ⟨Nat.le_of_ble_eq_true rfl, Nat.le_of_ble_eq_true rfl⟩) (kpreV hK hN hP hD [0, 1, 2, 3] rfl (by decide) 0 rfl rfl) rfl rfl hl.1 rfl (lv_room (Nat.le_of_ble_eq_true rfl)) dX0_linesOf_17 ⟨Nat.le_refl _, Nat.le_refl _⟩) hP hD hS hA rfl (fun H locs hP hS => ?_)
        refine lv_iload_n hx hb dX0_linesOf_20 rfl (lv_at hl 2 rfl) ?_
        obtain ⟨q4, h3, h⟩ := Option.bind_eq_some_iff.mp h
        refine kcir [] (va_runSN (As := [.int q2, .int y3]) (rest := [.int y5]) ⟨hx, hb, hml, hown, hts⟩ (kX9_linesFor l D cI cC cS q2 y3 H.size h3) ⟨va_cnB 2 hts gX0_linesOf_X9_linesFor_n79 rfl rfl rfl (hN.m 17 rfl) (hts (.initialized RX9) (by decide +kernel)) (by decide +kernel) ⟨Nat.le_of_ble_eq_true rfl, Nat.le_of_ble_eq_true rfl⟩, hts (.static yX9_linesFor) (by decide +kernel), trivial⟩ (kpre hK hN hP hD [] rfl (by decide)) rfl rfl hl.1 rfl (lv_room (Nat.le_of_ble_eq_true rfl)) dX0_linesOf_21 ⟨Nat.le_refl _, Nat.le_refl _⟩) hP hD hS hA rfl (fun H locs hP hS => ?_)
        refine lv_aload_n hx hb dX0_linesOf_24 rfl (lv_at hl 0 rfl) ?_
        refine lv_iload hx hb dX0_linesOf_25 (lv_at hl 5 rfl) ?_
        obtain ⟨q6, h5, h⟩ := Option.bind_eq_some_iff.mp h
        refine kcir [0, 1, 2, 3] (va_runV (As := [.int y6]) (rest := [.int q4, .int y5]) ⟨hx, hb, hml, hown, hts⟩ (kX0_opensChapter l D cI cC cS aB vB0 vB1 vB2 vB3 y6 H.size h5) (cwV 1 hts gX0_linesOf_X0_opensChapter rfl rfl rfl (by decide +kernel) ⟨Nat.le_of_ble_eq_true rfl, Nat.le_of_ble_eq_true rfl⟩) (kpreV hK hN hP hD [0, 1, 2, 3] rfl (by decide) 0 rfl rfl) rfl rfl hl.1 rfl (lv_room (Nat.le_of_ble_eq_true rfl)) dX0_linesOf_27 ⟨Nat.le_refl _, Nat.le_refl _⟩) hP hD hS hA rfl (fun H locs hP hS => ?_)
        refine lv_if_eq (tgt := 38) hx hb dX0_linesOf_30 (by decide) (fun g => ?_) (fun g => ?_)
        · rw [if_pos g] at h
          refine lv_iconst (v := (0 : Int32)) hx hb dX0_linesOf_38 (by decide) ?_
          exact j39 y2 y3 y4 y6 y5 q4 (0 : Int32) _ _ _ h hP hS (lv_sub hl [0, 1, 2, 3, 5] rfl)
        · rw [if_neg g] at h
          refine lv_iload hx hb dX0_linesOf_33 (lv_at hl 3 rfl) ?_
          refine lv_goto (tgt := 39) hx hb dX0_linesOf_35 (by decide) ?_
          exact j39 y2 y3 y4 y6 y5 q4 y4 _ _ _ h hP hS (lv_sub hl [0, 1, 2, 3, 5] rfl)
  unfold pX0_linesOf at h
  refine lv_iconst (v := (0 : Int32)) hx hb dX0_linesOf_0 (by decide) ?_
  refine lv_istore (lv' := [(5, .int (0 : Int32)), (0, .ref aB.1), (1, .int i1), (2, .int i2), (3, .int i3), (4, .int i4)]) hx hb dX0_linesOf_1 hl (by decide) rfl (fun ls hl => ?_)
  refine lv_iload_n hx hb dX0_linesOf_3 rfl (lv_at hl 2 rfl) ?_
  refine lv_istore (lv' := [(6, .int i1), (5, .int (0 : Int32)), (0, .ref aB.1), (1, .int i1), (2, .int i2), (3, .int i3), (4, .int i4)]) hx hb dX0_linesOf_4 hl (by decide) rfl (fun ls hl => ?_)
  exact L6 4000 i2 i3 i4 (0 : Int32) i1 _ _ _ h hP hS (lv_sub hl [2, 4, 5, 6, 1, 0] rfl)
set_option maxHeartbeats 8000000 in
set_option maxRecDepth 100000 in
theorem kX0_noteSumOf (l : Launch) (D : va_G) (cI cC cS : ClassId) (aB : Nat × Nat × Nat × Nat) (vB0 : (Nat → Int32)) (vB1 : (Nat → Int32)) (vB2 : (Nat → Int32)) (vB3 : Int32) (i1 : Int32) (i2 : Int32) (sz : Nat) {q : Int32} (h : pX0_noteSumOf vB2 vB3 i1 i2 = some q) : kMi l yX0_noteSumOf wsX0_noteSumOf ({ frames := 2, cells := 0, slots := 0, locals := 42 } : Room) D (kTy cI cC cS) [.ref aB.1, .int i1, .int i2] (wBK cI aB vB0 vB1 vB2 vB3) sz q (wBK cI aB vB0 vB1 vB2 vB3) := by
  refine Met.ofW (cc := cX0_noteSumOf) (maxL := 5) (ret := (some .int)) (by decide) rfl ?_
  intro p e s m args below meth c s₁ B hml hv
  obtain ⟨rfl, hsz, hP, hK, hD0, hN⟩ := hv
  have hx := B.exec
  have hb := B.bytes
  have hr := B.returns
  have hts := atoms_spec (ws := wsX0_noteSumOf) B.pre
  have hown : s.vm.findClass RX0 = some m.cls := findClass_of_methodNamed B.named
  have hlocks := B.notSynchronized
  subst hsz
  have hD := hD0.self (sz := s.heap.size)
  generalize hAe : va_A (wBK cI aB vB0 vB1 vB2 vB3) s.heap.size = A at hD ⊢
  have hA : ∀ q : Nat, s.heap.size ≤ q → A q := fun q h => by rw [← hAe]; exact Or.inr h
  have hS : va_S A s.heap s.heap [] := va_S.rf
  have hl := lv_entry ([.ref aB.1, .int i1, .int i2]) (n := 5) (Nat.le_of_ble_eq_true rfl)
  rw [lg_entry_eq]
  generalize (lg_sl ([.ref aB.1, .int i1, .int i2]) ++ List.replicate (5 - (lg_sl ([.ref aB.1, .int i1, .int i2])).length) Slot.unset).toArray = ls at hl ⊢
  have hl : lv_has ls 5 [(0, .ref aB.1), (1, .int i1), (2, .int i2)] := hl
  have L5 : ∀ (nL5 : Nat) (y2 : Int32) (y3 : Int32) (y4 : Int32) (H : Heap) (locs : List Loc) (ls : Array Slot), pX0_noteSumOf_L5 vB2 vB3 nL5 y2 y3 y4 = some q → va_P D vwCl (wBK cI aB vB0 vB1 vB2 vB3) H → va_S A s.heap H locs → lv_has ls 5 [(0, .ref aB.1), (2, .int y2), (3, .int y3), (4, .int y4)] → W p l e ({ frames := 2, cells := 0, slots := 0, locals := 42 } : Room) s m ([.ref aB.1, .int i1, .int i2] : List Value).toArray below meth c H locs 0 0 (MQ below (va_Qi (fun (r : Int32) (_ : Unit) => r = q) (fun _ => kPost D (wBK cI aB vB0 vB1 vB2 vB3) A) A) ([.ref aB.1, .int i1, .int i2] : List Value).toArray s 0 0 A) (F0 m 5 ls []) := by
    clear h hP hS hl
    intro nL5
    induction nL5 with
    | zero => intro y2 y3 y4 H locs ls h; have h : (none : Option (Int32)) = some q := h; cases h
    | succ nL5 ihL5 =>
      intro y2 y3 y4 H locs ls h hP hS hl
      have h : pX0_noteSumOf_bL5 vB2 vB3 (pX0_noteSumOf_L5 vB2 vB3 nL5) y2 y3 y4 = some q := h
      unfold pX0_noteSumOf_bL5 at h
      refine lv_iload hx hb dX0_noteSumOf_5 (lv_at hl 3 rfl) ?_
      refine lv_iload_n hx hb dX0_noteSumOf_7 rfl (lv_at hl 1 rfl) ?_
      refine lv_icmp_ge (tgt := 26) hx hb dX0_noteSumOf_8 (by decide) (fun g => ?_) (fun g => ?_)
      · rw [if_pos g] at h
        refine lv_iload_n hx hb dX0_noteSumOf_26 rfl (lv_at hl 2 rfl) ?_
        obtain rfl := Option.some.inj h
        exact W.iret (v := y3) hx hb hr (fun t ht hW => ⟨⟨_, (), rfl, rfl, by rw [ht]; exact hP, hD⟩, hS.F ht⟩) hS.2.2 dX0_noteSumOf_27
      · rw [if_neg g] at h
        refine lv_iload_n hx hb dX0_noteSumOf_11 rfl (lv_at hl 2 rfl) ?_
        refine lv_aload_n hx hb dX0_noteSumOf_12 rfl (lv_at hl 0 rfl) ?_
        refine lv_iload hx hb dX0_noteSumOf_13 (lv_at hl 3 rfl) ?_
        obtain ⟨q2, h1, h⟩ := Option.bind_eq_some_iff.mp h
        refine kcir [0, 1, 2, 3] (va_runV (As := [.int y4]) (rest := [.int y3]) ⟨hx, hb, hml, hown, hts⟩ (kX0_noteOf l D cI cC cS aB vB0 vB1 vB2 vB3 y4 H.size h1) (cwV 1 hts gX0_noteSumOf_X0_noteOf rfl rfl rfl (by decide +kernel) ⟨Nat.le_of_ble_eq_true rfl, Nat.le_of_ble_eq_true rfl⟩) (kpreV hK hN hP hD [0, 1, 2, 3] rfl (by decide) 0 rfl rfl) rfl rfl hl.1 rfl (lv_room (Nat.le_of_ble_eq_true rfl)) dX0_noteSumOf_15 ⟨Nat.le_refl _, Nat.le_refl _⟩) hP hD hS hA rfl (fun H locs hP hS => ?_)
        refine lv_iadd hx hb dX0_noteSumOf_18 ?_
        refine lv_istore_n (lv' := [(3, .int (y3 + q2)), (0, .ref aB.1), (2, .int y2), (4, .int y4)]) hx hb dX0_noteSumOf_19 rfl hl (by decide) rfl (fun ls hl => ?_)
        refine lv_iinc (v := (y4 + (1 : Int32))) (lv' := [(4, .int (y4 + (1 : Int32))), (3, .int (y3 + q2)), (0, .ref aB.1), (2, .int y2)]) hx hb dX0_noteSumOf_20 hl (k := 3) rfl rfl (by decide) rfl (fun ls hl => ?_)
        refine lv_goto (tgt := 5) hx hb dX0_noteSumOf_23 (by decide) ?_
        exact ihL5 y2 (y3 + q2) (y4 + (1 : Int32)) _ _ _ h hP hS (lv_sub hl [2, 3, 1, 0] rfl)
  unfold pX0_noteSumOf at h
  refine lv_iconst (v := (0 : Int32)) hx hb dX0_noteSumOf_0 (by decide) ?_
  refine lv_istore_n (lv' := [(3, .int (0 : Int32)), (0, .ref aB.1), (1, .int i1), (2, .int i2)]) hx hb dX0_noteSumOf_1 rfl hl (by decide) rfl (fun ls hl => ?_)
  refine lv_iload_n hx hb dX0_noteSumOf_2 rfl (lv_at hl 2 rfl) ?_
  refine lv_istore (lv' := [(4, .int i1), (3, .int (0 : Int32)), (0, .ref aB.1), (1, .int i1), (2, .int i2)]) hx hb dX0_noteSumOf_3 hl (by decide) rfl (fun ls hl => ?_)
  exact L5 4000 i2 (0 : Int32) i1 _ _ _ h hP hS (lv_sub hl [2, 4, 1, 0] rfl)
set_option maxHeartbeats 8000000 in
set_option maxRecDepth 100000 in
theorem kX0_copyFrom (l : Launch) (D : va_G) (cI cC cS : ClassId) (aB : Nat × Nat × Nat × Nat) (vB0 : (Nat → Int32)) (vB1 : (Nat → Int32)) (vB2 : (Nat → Int32)) (vB3 : Int32) (aO : Nat × Nat × Nat × Nat) (vO0 : (Nat → Int32)) (vO1 : (Nat → Int32)) (vO2 : (Nat → Int32)) (vO3 : Int32) (sz : Nat) {q : (Nat → Int32) × (Nat → Int32) × (Nat → Int32) × Int32} (h : pX0_copyFrom vO0 vO1 vO2 vO3 = some q) : kMv l yX0_copyFrom wsX0_copyFrom ({ frames := 2, cells := 0, slots := 0, locals := 61 } : Room) D (kTy cI cC cS) [.ref aB.1, .ref aO.1] (wBK cI aB vB0 vB1 vB2 vB3 ++ wBK cI aO vO0 vO1 vO2 vO3) sz (wBK cI aB q.1 q.2.1 q.2.2.1 q.2.2.2 ++ wBK cI aO vO0 vO1 vO2 vO3) := by
  refine Met.ofW (cc := cX0_copyFrom) (maxL := 2) (ret := none) (by decide) rfl ?_
  intro p e s m args below meth c s₁ B hml hv
  obtain ⟨rfl, hsz, hP, hK, hD0, hN⟩ := hv
  have hx := B.exec
  have hb := B.bytes
  have hr := B.returns
  have hts := atoms_spec (ws := wsX0_copyFrom) B.pre
  have hown : s.vm.findClass RX0 = some m.cls := findClass_of_methodNamed B.named
  have hlocks := B.notSynchronized
  subst hsz
  have hD := hD0.self (sz := s.heap.size)
  generalize hAe : va_A (wBK cI aB vB0 vB1 vB2 vB3 ++ wBK cI aO vO0 vO1 vO2 vO3) s.heap.size = A at hD ⊢
  have hA : ∀ q : Nat, s.heap.size ≤ q → A q := fun q h => by rw [← hAe]; exact Or.inr h
  have hS : va_S A s.heap s.heap [] := va_S.rf
  have huX0 : ∀ w ∈ u_ws RX0 TX0 4, w ∈ wsX0_copyFrom := by decide +kernel
  have hl := lv_entry ([.ref aB.1, .ref aO.1]) (n := 2) (Nat.le_of_ble_eq_true rfl)
  rw [lg_entry_eq]
  generalize (lg_sl ([.ref aB.1, .ref aO.1]) ++ List.replicate (2 - (lg_sl ([.ref aB.1, .ref aO.1])).length) Slot.unset).toArray = ls at hl ⊢
  have hl : lv_has ls 2 [(0, .ref aB.1), (1, .ref aO.1)] := hl
  unfold pX0_copyFrom at h
  refine lv_aload_n hx hb dX0_copyFrom_0 rfl (lv_at hl 1 rfl) ?_
  refine va_get (D := D) (ci := 0) (v := .ref aO.2.1) (C := RX0) (T := TX0) (N := 4) hx hb hts huX0 hown hK hP 4 rfl rfl 0 (by decide) (hts (.fieldLink RX0 9 "VerseColumns$Book" "chapters" "[I") (by decide +kernel)) (fun _ h9 => h9) rfl dX0_copyFrom_1 ?_
  refine lv_aload_n hx hb dX0_copyFrom_4 rfl (lv_at hl 0 rfl) ?_
  refine va_get (D := D) (ci := 0) (v := .ref aB.2.1) (C := RX0) (T := TX0) (N := 4) hx hb hts huX0 hown hK hP 0 rfl rfl 0 (by decide) (hts (.fieldLink RX0 9 "VerseColumns$Book" "chapters" "[I") (by decide +kernel)) (fun _ h9 => h9) rfl dX0_copyFrom_5 ?_
  obtain ⟨q2, h1, h⟩ := Option.bind_eq_some_iff.mp h
  refine kcvw (ws' := (wBK cI aB q2 vB1 vB2 vB3 ++ wBK cI aO vO0 vO1 vO2 vO3)) [5, 1] (va_runSN (As := [.ref aO.2.1, .ref aB.2.1]) (rest := []) ⟨hx, hb, hml, hown, hts⟩ (kX9_copyRow l D cI cC cS aO.2.1 60 vO0 aB.2.1 60 vB0 s.heap.size h1) ⟨va_cnB 2 hts gX0_copyFrom_X9_copyRow_n21 rfl rfl rfl (hN.m 12 rfl) (hts (.initialized RX9) (by decide +kernel)) (by decide +kernel) ⟨Nat.le_of_ble_eq_true rfl, Nat.le_of_ble_eq_true rfl⟩, hts (.static yX9_copyRow) (by decide +kernel), trivial⟩ (kpre hK hN hP hD [5, 1] rfl (by decide)) rfl rfl hl.1 rfl (lv_room (Nat.le_of_ble_eq_true rfl)) dX0_copyFrom_8 ⟨Nat.le_refl _, Nat.le_refl _⟩) hP hD hS hA rfl (by decide) rfl [0, 2, 0, 0, 0, 1, 0, 0] (by decide +kernel) rfl (fun H locs hP hD hS => ?_)
  refine lv_aload_n hx hb dX0_copyFrom_11 rfl (lv_at hl 1 rfl) ?_
  refine va_get (D := D) (ci := 0) (v := .ref aO.2.2.1) (C := RX0) (T := TX0) (N := 4) hx hb hts huX0 hown hK hP 4 rfl rfl 1 (by decide) (hts (.fieldLink RX0 15 "VerseColumns$Book" "letters" "[I") (by decide +kernel)) (fun _ h9 => h9) rfl dX0_copyFrom_12 ?_
  refine lv_aload_n hx hb dX0_copyFrom_15 rfl (lv_at hl 0 rfl) ?_
  refine va_get (D := D) (ci := 0) (v := .ref aB.2.2.1) (C := RX0) (T := TX0) (N := 4) hx hb hts huX0 hown hK hP 0 rfl rfl 1 (by decide) (hts (.fieldLink RX0 15 "VerseColumns$Book" "letters" "[I") (by decide +kernel)) (fun _ h9 => h9) rfl dX0_copyFrom_16 ?_
  obtain ⟨q4, h3, h⟩ := Option.bind_eq_some_iff.mp h
  refine kcvw (ws' := (wBK cI aB q2 q4 vB2 vB3 ++ wBK cI aO vO0 vO1 vO2 vO3)) [6, 2] (va_runSN (As := [.ref aO.2.2.1, .ref aB.2.2.1]) (rest := []) ⟨hx, hb, hml, hown, hts⟩ (kX9_copyRow l D cI cC cS aO.2.2.1 60 vO1 aB.2.2.1 60 vB1 H.size h3) ⟨va_cnB 2 hts gX0_copyFrom_X9_copyRow_n21 rfl rfl rfl (hN.m 12 rfl) (hts (.initialized RX9) (by decide +kernel)) (by decide +kernel) ⟨Nat.le_of_ble_eq_true rfl, Nat.le_of_ble_eq_true rfl⟩, hts (.static yX9_copyRow) (by decide +kernel), trivial⟩ (kpre hK hN hP hD [6, 2] rfl (by decide)) rfl rfl hl.1 rfl (lv_room (Nat.le_of_ble_eq_true rfl)) dX0_copyFrom_19 ⟨Nat.le_refl _, Nat.le_refl _⟩) hP hD hS hA rfl (by decide) rfl [0, 0, 2, 0, 0, 0, 1, 0] (by decide +kernel) rfl (fun H locs hP hD hS => ?_)
  refine lv_aload_n hx hb dX0_copyFrom_22 rfl (lv_at hl 1 rfl) ?_
  refine va_get (D := D) (ci := 0) (v := .ref aO.2.2.2) (C := RX0) (T := TX0) (N := 4) hx hb hts huX0 hown hK hP 4 rfl rfl 2 (by decide) (hts (.fieldLink RX0 18 "VerseColumns$Book" "notes" "[I") (by decide +kernel)) (fun _ h9 => h9) rfl dX0_copyFrom_23 ?_
  refine lv_aload_n hx hb dX0_copyFrom_26 rfl (lv_at hl 0 rfl) ?_
  refine va_get (D := D) (ci := 0) (v := .ref aB.2.2.2) (C := RX0) (T := TX0) (N := 4) hx hb hts huX0 hown hK hP 0 rfl rfl 2 (by decide) (hts (.fieldLink RX0 18 "VerseColumns$Book" "notes" "[I") (by decide +kernel)) (fun _ h9 => h9) rfl dX0_copyFrom_27 ?_
  obtain ⟨q6, h5, h⟩ := Option.bind_eq_some_iff.mp h
  refine kcvw (ws' := (wBK cI aB q2 q4 q6 vB3 ++ wBK cI aO vO0 vO1 vO2 vO3)) [7, 3] (va_runSN (As := [.ref aO.2.2.2, .ref aB.2.2.2]) (rest := []) ⟨hx, hb, hml, hown, hts⟩ (kX9_copyRow l D cI cC cS aO.2.2.2 60 vO2 aB.2.2.2 60 vB2 H.size h5) ⟨va_cnB 2 hts gX0_copyFrom_X9_copyRow_n21 rfl rfl rfl (hN.m 12 rfl) (hts (.initialized RX9) (by decide +kernel)) (by decide +kernel) ⟨Nat.le_of_ble_eq_true rfl, Nat.le_of_ble_eq_true rfl⟩, hts (.static yX9_copyRow) (by decide +kernel), trivial⟩ (kpre hK hN hP hD [7, 3] rfl (by decide)) rfl rfl hl.1 rfl (lv_room (Nat.le_of_ble_eq_true rfl)) dX0_copyFrom_30 ⟨Nat.le_refl _, Nat.le_refl _⟩) hP hD hS hA rfl (by decide) rfl [0, 0, 0, 2, 0, 0, 0, 1] (by decide +kernel) rfl (fun H locs hP hD hS => ?_)
  refine lv_aload_n hx hb dX0_copyFrom_33 rfl (lv_at hl 0 rfl) ?_
  refine lv_aload_n hx hb dX0_copyFrom_34 rfl (lv_at hl 1 rfl) ?_
  refine va_get (D := D) (ci := 0) (v := .int vO3) (C := RX0) (T := TX0) (N := 4) hx hb hts huX0 hown hK hP 4 rfl rfl 3 (by decide) (hts (.fieldLink RX0 25 "VerseColumns$Book" "verses" "I") (by decide +kernel)) (fun _ h9 => h9) rfl dX0_copyFrom_35 ?_
  refine va_put (D := D) (ci := 0) (v := .int vO3) (ty := .int) (C := RX0) (T := TX0) (N := 4) hx hb hts huX0 tyX0 tyX0_ok nmX0 hown hK hP hD hS 0 rfl rfl 3 (by decide) (hts (.fieldLink RX0 25 "VerseColumns$Book" "verses" "I") (by decide +kernel)) (fun _ h9 => h9) rfl (by decide +kernel) rfl rfl (Nat.le_of_ble_eq_true rfl) dX0_copyFrom_38 (fun H locs hP hD hS => ?_)
  have hP : va_P D vwCl (wBK cI aB q2 q4 q6 vO3 ++ wBK cI aO vO0 vO1 vO2 vO3) H := hP
  have hD : va_D A (wBK cI aB q2 q4 q6 vO3 ++ wBK cI aO vO0 vO1 vO2 vO3) := hD
  obtain rfl := Option.some.inj h
  exact W.vret hx hb hr (fun t ht hW => ⟨⟨(), rfl, trivial, by rw [ht]; exact hP, hD⟩, hS.F ht⟩) hS.2.2 dX0_copyFrom_41
