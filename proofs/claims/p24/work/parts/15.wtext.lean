-- walks: text (printed by wip/whole/gen)
set_option maxHeartbeats 8000000 in
set_option maxRecDepth 100000 in
theorem kX8_append (l : Launch) (D : va_G) (cI cC cS : ClassId) (aT : Nat × Nat) (vT0 : (Nat → Int32)) (vT1 : Int32) (vT2 : Int32) (vT3 : Int32) (vT4 : Int32) (vT5 : Int32) (i1 : Int32) (sz : Nat) {q : Int32 × (Nat → Int32) × Int32} (h : pX8_append vT0 vT1 i1 = some q) : kMi l yX8_append wsX8_append ({ frames := 1, cells := 0, slots := 0, locals := 22 } : Room) D (kTy cI cC cS) [.ref aT.1, .int i1] (wTX cC aT vT0 vT1 vT2 vT3 vT4 vT5) sz q.1 (wTX cC aT q.2.1 q.2.2 vT2 vT3 vT4 vT5) := by
  refine Met.ofW (cc := cX8_append) (maxL := 2) (ret := (some .boolean)) (by decide) rfl ?_
  intro p e s m args below meth c s₁ B hml hv
  obtain ⟨rfl, hsz, hP, hK, hD0, hN⟩ := hv
  have hx := B.exec
  have hb := B.bytes
  have hr := B.returns
  have hts := atoms_spec (ws := wsX8_append) B.pre
  have hown : s.vm.findClass RX8 = some m.cls := findClass_of_methodNamed B.named
  have hlocks := B.notSynchronized
  subst hsz
  have hD := hD0.self (sz := s.heap.size)
  generalize hAe : va_A (wTX cC aT vT0 vT1 vT2 vT3 vT4 vT5) s.heap.size = A at hD ⊢
  have hA : ∀ q : Nat, s.heap.size ≤ q → A q := fun q h => by rw [← hAe]; exact Or.inr h
  have hS : va_S A s.heap s.heap [] := va_S.rf
  have huX8 : ∀ w ∈ u_ws RX8 TX8 6, w ∈ wsX8_append := by decide +kernel
  have hl := lv_entry ([.ref aT.1, .int i1]) (n := 2) (Nat.le_of_ble_eq_true rfl)
  rw [lg_entry_eq]
  generalize (lg_sl ([.ref aT.1, .int i1]) ++ List.replicate (2 - (lg_sl ([.ref aT.1, .int i1])).length) Slot.unset).toArray = ls at hl ⊢
  have hl : lv_has ls 2 [(0, .ref aT.1), (1, .int i1)] := hl
  unfold pX8_append at h
  refine lv_aload_n hx hb dX8_append_0 rfl (lv_at hl 0 rfl) ?_
  refine va_get (D := D) (ci := 8) (v := .int vT1) (C := RX8) (T := TX8) (N := 6) hx hb hts huX8 hown hK hP 0 rfl rfl 1 (by decide) (hts (.fieldLink RX8 15 "VerseColumns$Text" "length" "I") (by decide +kernel)) (fun _ h9 => h9) rfl dX8_append_1 ?_
  refine lv_iconst (v := (0 : Int32)) hx hb dX8_append_4 (by decide) ?_
  refine lv_bipush (v := (79 : Int32)) hx hb dX8_append_5 (by decide) ?_
  obtain ⟨q2, h1, h⟩ := Option.bind_eq_some_iff.mp h
  refine kcir [] (va_runSN (As := [.int vT1, .int (0 : Int32), .int (79 : Int32)]) (rest := []) ⟨hx, hb, hml, hown, hts⟩ (kX9_isWithin l D cI cC cS vT1 (0 : Int32) (79 : Int32) s.heap.size h1) ⟨va_cnB 3 hts gX8_append_X9_isWithin_n19 rfl rfl rfl (hN.m 19 rfl) (hts (.initialized RX9) (by decide +kernel)) (by decide +kernel) ⟨Nat.le_of_ble_eq_true rfl, Nat.le_of_ble_eq_true rfl⟩, hts (.static yX9_isWithin) (by decide +kernel), trivial⟩ (kpre hK hN hP hD [] rfl (by decide)) rfl rfl hl.1 rfl (lv_room (Nat.le_of_ble_eq_true rfl)) dX8_append_7 ⟨Nat.le_refl _, Nat.le_refl _⟩) hP hD hS hA rfl (fun H locs hP hS => ?_)
  refine lv_if_ne (tgt := 15) hx hb dX8_append_10 (by decide) (fun g => ?_) (fun g => ?_)
  · rw [if_neg g] at h
    refine lv_aload_n hx hb dX8_append_15 rfl (lv_at hl 0 rfl) ?_
    refine va_get (D := D) (ci := 8) (v := .ref aT.2) (C := RX8) (T := TX8) (N := 6) hx hb hts huX8 hown hK hP 0 rfl rfl 0 (by decide) (hts (.fieldLink RX8 9 "VerseColumns$Text" "signs" "[C") (by decide +kernel)) (fun _ h9 => h9) rfl dX8_append_16 ?_
    refine lv_aload_n hx hb dX8_append_19 rfl (lv_at hl 0 rfl) ?_
    refine va_get (D := D) (ci := 8) (v := .int vT1) (C := RX8) (T := TX8) (N := 6) hx hb hts huX8 hown hK hP 0 rfl rfl 1 (by decide) (hts (.fieldLink RX8 15 "VerseColumns$Text" "length" "I") (by decide +kernel)) (fun _ h9 => h9) rfl dX8_append_20 ?_
    refine lv_iload_n hx hb dX8_append_23 rfl (lv_at hl 1 rfl) ?_
    obtain ⟨g, h⟩ := kif h
    refine va_cast hx hb hK hP hD hS 1 1 rfl rfl (kin g) dX8_append_24 (fun H locs hP hD hS => ?_)
    have hP : va_P D vwCl (wTX cC aT (upd vT0 vT1.toNatClampNeg (vp_nar .char i1)) vT1 vT2 vT3 vT4 vT5) H := hP
    have hD : va_D A (wTX cC aT (upd vT0 vT1.toNatClampNeg (vp_nar .char i1)) vT1 vT2 vT3 vT4 vT5) := hD
    refine lv_aload_n hx hb dX8_append_25 rfl (lv_at hl 0 rfl) ?_
    refine lv_dup hx hb dX8_append_26 rfl ?_
    refine va_get (D := D) (ci := 8) (v := .int vT1) (C := RX8) (T := TX8) (N := 6) hx hb hts huX8 hown hK hP 0 rfl rfl 1 (by decide) (hts (.fieldLink RX8 15 "VerseColumns$Text" "length" "I") (by decide +kernel)) (fun _ h9 => h9) rfl dX8_append_27 ?_
    refine lv_iconst (v := (1 : Int32)) hx hb dX8_append_30 (by decide) ?_
    refine lv_iadd hx hb dX8_append_31 ?_
    refine va_put (D := D) (ci := 8) (v := .int (vT1 + (1 : Int32))) (ty := .int) (C := RX8) (T := TX8) (N := 6) hx hb hts huX8 tyX8 tyX8_ok nmX8 hown hK hP hD hS 0 rfl rfl 1 (by decide) (hts (.fieldLink RX8 15 "VerseColumns$Text" "length" "I") (by decide +kernel)) (fun _ h9 => h9) rfl (by decide +kernel) rfl rfl (Nat.le_of_ble_eq_true rfl) dX8_append_32 (fun H locs hP hD hS => ?_)
    have hP : va_P D vwCl (wTX cC aT (upd vT0 vT1.toNatClampNeg (vp_nar .char i1)) (vT1 + (1 : Int32)) vT2 vT3 vT4 vT5) H := hP
    have hD : va_D A (wTX cC aT (upd vT0 vT1.toNatClampNeg (vp_nar .char i1)) (vT1 + (1 : Int32)) vT2 vT3 vT4 vT5) := hD
    refine lv_iconst (v := (1 : Int32)) hx hb dX8_append_35 (by decide) ?_
    obtain rfl := Option.some.inj h
    exact W.zret (v := (1 : Int32)) hx hb hr rfl (fun t ht hW => ⟨⟨_, (), rfl, rfl, by rw [ht]; exact hP, hD⟩, hS.F ht⟩) hS.2.2 dX8_append_36
  · rw [if_pos g] at h
    refine lv_iconst (v := (0 : Int32)) hx hb dX8_append_13 (by decide) ?_
    obtain rfl := Option.some.inj h
    exact W.zret (v := (0 : Int32)) hx hb hr rfl (fun t ht hW => ⟨⟨_, (), rfl, rfl, by rw [ht]; exact hP, hD⟩, hS.F ht⟩) hS.2.2 dX8_append_14
set_option maxHeartbeats 8000000 in
set_option maxRecDepth 100000 in
theorem kX8_clear (l : Launch) (D : va_G) (cI cC cS : ClassId) (aT : Nat × Nat) (vT0 : (Nat → Int32)) (vT1 : Int32) (vT2 : Int32) (vT3 : Int32) (vT4 : Int32) (vT5 : Int32) (sz : Nat) {q : Int32} (h : pX8_clear  = some q) : kMv l yX8_clear wsX8_clear ({ frames := 0, cells := 0, slots := 0, locals := 0 } : Room) D (kTy cI cC cS) [.ref aT.1] (wTX cC aT vT0 vT1 vT2 vT3 vT4 vT5) sz (wTX cC aT vT0 q vT2 vT3 vT4 vT5) := by
  refine Met.ofW (cc := cX8_clear) (maxL := 1) (ret := none) (by decide) rfl ?_
  intro p e s m args below meth c s₁ B hml hv
  obtain ⟨rfl, hsz, hP, hK, hD0, hN⟩ := hv
  have hx := B.exec
  have hb := B.bytes
  have hr := B.returns
  have hts := atoms_spec (ws := wsX8_clear) B.pre
  have hown : s.vm.findClass RX8 = some m.cls := findClass_of_methodNamed B.named
  have hlocks := B.notSynchronized
  subst hsz
  have hD := hD0.self (sz := s.heap.size)
  generalize hAe : va_A (wTX cC aT vT0 vT1 vT2 vT3 vT4 vT5) s.heap.size = A at hD ⊢
  have hA : ∀ q : Nat, s.heap.size ≤ q → A q := fun q h => by rw [← hAe]; exact Or.inr h
  have hS : va_S A s.heap s.heap [] := va_S.rf
  have huX8 : ∀ w ∈ u_ws RX8 TX8 6, w ∈ wsX8_clear := by decide +kernel
  have hl := lv_entry ([.ref aT.1]) (n := 1) (Nat.le_of_ble_eq_true rfl)
  rw [lg_entry_eq]
  generalize (lg_sl ([.ref aT.1]) ++ List.replicate (1 - (lg_sl ([.ref aT.1])).length) Slot.unset).toArray = ls at hl ⊢
  have hl : lv_has ls 1 [(0, .ref aT.1)] := hl
  unfold pX8_clear at h
  refine lv_aload_n hx hb dX8_clear_0 rfl (lv_at hl 0 rfl) ?_
  refine lv_iconst (v := (0 : Int32)) hx hb dX8_clear_1 (by decide) ?_
  refine va_put (D := D) (ci := 8) (v := .int (0 : Int32)) (ty := .int) (C := RX8) (T := TX8) (N := 6) hx hb hts huX8 tyX8 tyX8_ok nmX8 hown hK hP hD hS 0 rfl rfl 1 (by decide) (hts (.fieldLink RX8 15 "VerseColumns$Text" "length" "I") (by decide +kernel)) (fun _ h9 => h9) rfl (by decide +kernel) rfl rfl (Nat.le_of_ble_eq_true rfl) dX8_clear_2 (fun H locs hP hD hS => ?_)
  have hP : va_P D vwCl (wTX cC aT vT0 (0 : Int32) vT2 vT3 vT4 vT5) H := hP
  have hD : va_D A (wTX cC aT vT0 (0 : Int32) vT2 vT3 vT4 vT5) := hD
  obtain rfl := Option.some.inj h
  exact W.vret hx hb hr (fun t ht hW => ⟨⟨(), rfl, trivial, by rw [ht]; exact hP, hD⟩, hS.F ht⟩) hS.2.2 dX8_clear_5
set_option maxHeartbeats 8000000 in
set_option maxRecDepth 100000 in
theorem kX8_restart (l : Launch) (D : va_G) (cI cC cS : ClassId) (aT : Nat × Nat) (vT0 : (Nat → Int32)) (vT1 : Int32) (vT2 : Int32) (vT3 : Int32) (vT4 : Int32) (vT5 : Int32) (sz : Nat) {q : Int32 × Int32 × Int32 × Int32} (h : pX8_restart  = some q) : kMv l yX8_restart wsX8_restart ({ frames := 0, cells := 0, slots := 0, locals := 0 } : Room) D (kTy cI cC cS) [.ref aT.1] (wTX cC aT vT0 vT1 vT2 vT3 vT4 vT5) sz (wTX cC aT vT0 vT1 q.1 q.2.1 q.2.2.1 q.2.2.2) := by
  refine Met.ofW (cc := cX8_restart) (maxL := 1) (ret := none) (by decide) rfl ?_
  intro p e s m args below meth c s₁ B hml hv
  obtain ⟨rfl, hsz, hP, hK, hD0, hN⟩ := hv
  have hx := B.exec
  have hb := B.bytes
  have hr := B.returns
  have hts := atoms_spec (ws := wsX8_restart) B.pre
  have hown : s.vm.findClass RX8 = some m.cls := findClass_of_methodNamed B.named
  have hlocks := B.notSynchronized
  subst hsz
  have hD := hD0.self (sz := s.heap.size)
  generalize hAe : va_A (wTX cC aT vT0 vT1 vT2 vT3 vT4 vT5) s.heap.size = A at hD ⊢
  have hA : ∀ q : Nat, s.heap.size ≤ q → A q := fun q h => by rw [← hAe]; exact Or.inr h
  have hS : va_S A s.heap s.heap [] := va_S.rf
  have huX8 : ∀ w ∈ u_ws RX8 TX8 6, w ∈ wsX8_restart := by decide +kernel
  have hl := lv_entry ([.ref aT.1]) (n := 1) (Nat.le_of_ble_eq_true rfl)
  rw [lg_entry_eq]
  generalize (lg_sl ([.ref aT.1]) ++ List.replicate (1 - (lg_sl ([.ref aT.1])).length) Slot.unset).toArray = ls at hl ⊢
  have hl : lv_has ls 1 [(0, .ref aT.1)] := hl
  unfold pX8_restart at h
  refine lv_aload_n hx hb dX8_restart_0 rfl (lv_at hl 0 rfl) ?_
  refine lv_iconst (v := (0 : Int32)) hx hb dX8_restart_1 (by decide) ?_
  refine va_put (D := D) (ci := 8) (v := .int (0 : Int32)) (ty := .int) (C := RX8) (T := TX8) (N := 6) hx hb hts huX8 tyX8 tyX8_ok nmX8 hown hK hP hD hS 0 rfl rfl 2 (by decide) (hts (.fieldLink RX8 23 "VerseColumns$Text" "place" "I") (by decide +kernel)) (fun _ h9 => h9) rfl (by decide +kernel) rfl rfl (Nat.le_of_ble_eq_true rfl) dX8_restart_2 (fun H locs hP hD hS => ?_)
  have hP : va_P D vwCl (wTX cC aT vT0 vT1 (0 : Int32) vT3 vT4 vT5) H := hP
  have hD : va_D A (wTX cC aT vT0 vT1 (0 : Int32) vT3 vT4 vT5) := hD
  refine lv_aload_n hx hb dX8_restart_5 rfl (lv_at hl 0 rfl) ?_
  refine lv_iconst (v := (-1 : Int32)) hx hb dX8_restart_6 (by decide) ?_
  refine va_put (D := D) (ci := 8) (v := .int (-1 : Int32)) (ty := .int) (C := RX8) (T := TX8) (N := 6) hx hb hts huX8 tyX8 tyX8_ok nmX8 hown hK hP hD hS 0 rfl rfl 3 (by decide) (hts (.fieldLink RX8 26 "VerseColumns$Text" "fault" "I") (by decide +kernel)) (fun _ h9 => h9) rfl (by decide +kernel) rfl rfl (Nat.le_of_ble_eq_true rfl) dX8_restart_7 (fun H locs hP hD hS => ?_)
  have hP : va_P D vwCl (wTX cC aT vT0 vT1 (0 : Int32) (-1 : Int32) vT4 vT5) H := hP
  have hD : va_D A (wTX cC aT vT0 vT1 (0 : Int32) (-1 : Int32) vT4 vT5) := hD
  refine lv_aload_n hx hb dX8_restart_10 rfl (lv_at hl 0 rfl) ?_
  refine lv_iconst (v := (0 : Int32)) hx hb dX8_restart_11 (by decide) ?_
  refine va_put (D := D) (ci := 8) (v := .int (0 : Int32)) (ty := .int) (C := RX8) (T := TX8) (N := 6) hx hb hts huX8 tyX8 tyX8_ok nmX8 hown hK hP hD hS 0 rfl rfl 4 (by decide) (hts (.fieldLink RX8 29 "VerseColumns$Text" "number" "I") (by decide +kernel)) (fun _ h9 => h9) rfl (by decide +kernel) rfl rfl (Nat.le_of_ble_eq_true rfl) dX8_restart_12 (fun H locs hP hD hS => ?_)
  have hP : va_P D vwCl (wTX cC aT vT0 vT1 (0 : Int32) (-1 : Int32) (0 : Int32) vT5) H := hP
  have hD : va_D A (wTX cC aT vT0 vT1 (0 : Int32) (-1 : Int32) (0 : Int32) vT5) := hD
  refine lv_aload_n hx hb dX8_restart_15 rfl (lv_at hl 0 rfl) ?_
  refine lv_iconst (v := (0 : Int32)) hx hb dX8_restart_16 (by decide) ?_
  refine va_put (D := D) (ci := 8) (v := .int (0 : Int32)) (ty := .int) (C := RX8) (T := TX8) (N := 6) hx hb hts huX8 tyX8 tyX8_ok nmX8 hown hK hP hD hS 0 rfl rfl 5 (by decide) (hts (.fieldLink RX8 32 "VerseColumns$Text" "numberStart" "I") (by decide +kernel)) (fun _ h9 => h9) rfl (by decide +kernel) rfl rfl (Nat.le_of_ble_eq_true rfl) dX8_restart_17 (fun H locs hP hD hS => ?_)
  have hP : va_P D vwCl (wTX cC aT vT0 vT1 (0 : Int32) (-1 : Int32) (0 : Int32) (0 : Int32)) H := hP
  have hD : va_D A (wTX cC aT vT0 vT1 (0 : Int32) (-1 : Int32) (0 : Int32) (0 : Int32)) := hD
  obtain rfl := Option.some.inj h
  exact W.vret hx hb hr (fun t ht hW => ⟨⟨(), rfl, trivial, by rw [ht]; exact hP, hD⟩, hS.F ht⟩) hS.2.2 dX8_restart_20
set_option maxHeartbeats 8000000 in
set_option maxRecDepth 100000 in
theorem kX8_hasFault (l : Launch) (D : va_G) (cI cC cS : ClassId) (aT : Nat × Nat) (vT0 : (Nat → Int32)) (vT1 : Int32) (vT2 : Int32) (vT3 : Int32) (vT4 : Int32) (vT5 : Int32) (sz : Nat) {q : Int32} (h : pX8_hasFault vT3 = some q) : kMi l yX8_hasFault wsX8_hasFault ({ frames := 0, cells := 0, slots := 0, locals := 0 } : Room) D (kTy cI cC cS) [.ref aT.1] (wTX cC aT vT0 vT1 vT2 vT3 vT4 vT5) sz q (wTX cC aT vT0 vT1 vT2 vT3 vT4 vT5) := by
  refine Met.ofW (cc := cX8_hasFault) (maxL := 1) (ret := (some .boolean)) (by decide) rfl ?_
  intro p e s m args below meth c s₁ B hml hv
  obtain ⟨rfl, hsz, hP, hK, hD0, hN⟩ := hv
  have hx := B.exec
  have hb := B.bytes
  have hr := B.returns
  have hts := atoms_spec (ws := wsX8_hasFault) B.pre
  have hown : s.vm.findClass RX8 = some m.cls := findClass_of_methodNamed B.named
  have hlocks := B.notSynchronized
  subst hsz
  have hD := hD0.self (sz := s.heap.size)
  generalize hAe : va_A (wTX cC aT vT0 vT1 vT2 vT3 vT4 vT5) s.heap.size = A at hD ⊢
  have hA : ∀ q : Nat, s.heap.size ≤ q → A q := fun q h => by rw [← hAe]; exact Or.inr h
  have hS : va_S A s.heap s.heap [] := va_S.rf
  have huX8 : ∀ w ∈ u_ws RX8 TX8 6, w ∈ wsX8_hasFault := by decide +kernel
  have hl := lv_entry ([.ref aT.1]) (n := 1) (Nat.le_of_ble_eq_true rfl)
  rw [lg_entry_eq]
  generalize (lg_sl ([.ref aT.1]) ++ List.replicate (1 - (lg_sl ([.ref aT.1])).length) Slot.unset).toArray = ls at hl ⊢
  have hl : lv_has ls 1 [(0, .ref aT.1)] := hl
  unfold pX8_hasFault at h
  refine lv_aload_n hx hb dX8_hasFault_0 rfl (lv_at hl 0 rfl) ?_
  refine va_get (D := D) (ci := 8) (v := .int vT3) (C := RX8) (T := TX8) (N := 6) hx hb hts huX8 hown hK hP 0 rfl rfl 3 (by decide) (hts (.fieldLink RX8 26 "VerseColumns$Text" "fault" "I") (by decide +kernel)) (fun _ h9 => h9) rfl dX8_hasFault_1 ?_
  refine lv_iconst (v := (-1 : Int32)) hx hb dX8_hasFault_4 (by decide) ?_
  refine lv_icmp_eq (tgt := 12) hx hb dX8_hasFault_5 (by decide) (fun g => ?_) (fun g => ?_)
  · rw [if_pos g] at h
    refine lv_iconst (v := (0 : Int32)) hx hb dX8_hasFault_12 (by decide) ?_
    obtain rfl := Option.some.inj h
    exact W.zret (v := (0 : Int32)) hx hb hr rfl (fun t ht hW => ⟨⟨_, (), rfl, rfl, by rw [ht]; exact hP, hD⟩, hS.F ht⟩) hS.2.2 dX8_hasFault_13
  · rw [if_neg g] at h
    refine lv_iconst (v := (1 : Int32)) hx hb dX8_hasFault_8 (by decide) ?_
    refine lv_goto (tgt := 13) hx hb dX8_hasFault_9 (by decide) ?_
    obtain rfl := Option.some.inj h
    exact W.zret (v := (1 : Int32)) hx hb hr rfl (fun t ht hW => ⟨⟨_, (), rfl, rfl, by rw [ht]; exact hP, hD⟩, hS.F ht⟩) hS.2.2 dX8_hasFault_13
set_option maxHeartbeats 8000000 in
set_option maxRecDepth 100000 in
theorem kX8_goesOn (l : Launch) (D : va_G) (cI cC cS : ClassId) (aT : Nat × Nat) (vT0 : (Nat → Int32)) (vT1 : Int32) (vT2 : Int32) (vT3 : Int32) (vT4 : Int32) (vT5 : Int32) (sz : Nat) {q : Int32} (h : pX8_goesOn vT1 vT2 vT3 = some q) : kMi l yX8_goesOn wsX8_goesOn ({ frames := 1, cells := 0, slots := 0, locals := 20 } : Room) D (kTy cI cC cS) [.ref aT.1] (wTX cC aT vT0 vT1 vT2 vT3 vT4 vT5) sz q (wTX cC aT vT0 vT1 vT2 vT3 vT4 vT5) := by
  refine Met.ofW (cc := cX8_goesOn) (maxL := 1) (ret := (some .boolean)) (by decide) rfl ?_
  intro p e s m args below meth c s₁ B hml hv
  obtain ⟨rfl, hsz, hP, hK, hD0, hN⟩ := hv
  have hx := B.exec
  have hb := B.bytes
  have hr := B.returns
  have hts := atoms_spec (ws := wsX8_goesOn) B.pre
  have hown : s.vm.findClass RX8 = some m.cls := findClass_of_methodNamed B.named
  have hlocks := B.notSynchronized
  subst hsz
  have hD := hD0.self (sz := s.heap.size)
  generalize hAe : va_A (wTX cC aT vT0 vT1 vT2 vT3 vT4 vT5) s.heap.size = A at hD ⊢
  have hA : ∀ q : Nat, s.heap.size ≤ q → A q := fun q h => by rw [← hAe]; exact Or.inr h
  have hS : va_S A s.heap s.heap [] := va_S.rf
  have huX8 : ∀ w ∈ u_ws RX8 TX8 6, w ∈ wsX8_goesOn := by decide +kernel
  have hl := lv_entry ([.ref aT.1]) (n := 1) (Nat.le_of_ble_eq_true rfl)
  rw [lg_entry_eq]
  generalize (lg_sl ([.ref aT.1]) ++ List.replicate (1 - (lg_sl ([.ref aT.1])).length) Slot.unset).toArray = ls at hl ⊢
  have hl : lv_has ls 1 [(0, .ref aT.1)] := hl
  unfold pX8_goesOn at h
  refine lv_aload_n hx hb dX8_goesOn_0 rfl (lv_at hl 0 rfl) ?_
  obtain ⟨q2, h1, h⟩ := Option.bind_eq_some_iff.mp h
  refine kcir [0, 1] (va_runV (As := []) (rest := []) ⟨hx, hb, hml, hown, hts⟩ (kX8_hasFault l D cI cC cS aT vT0 vT1 vT2 vT3 vT4 vT5 s.heap.size h1) (cwV 0 hts gX8_goesOn_X8_hasFault rfl rfl rfl (by decide +kernel) ⟨Nat.le_of_ble_eq_true rfl, Nat.le_of_ble_eq_true rfl⟩) (kpreV hK hN hP hD [0, 1] rfl (by decide) 8 rfl rfl) rfl rfl hl.1 rfl (lv_room (Nat.le_of_ble_eq_true rfl)) dX8_goesOn_1 ⟨Nat.le_refl _, Nat.le_refl _⟩) hP hD hS hA rfl (fun H locs hP hS => ?_)
  refine lv_if_ne (tgt := 22) hx hb dX8_goesOn_4 (by decide) (fun g => ?_) (fun g => ?_)
  · rw [if_neg g] at h
    refine lv_iconst (v := (0 : Int32)) hx hb dX8_goesOn_22 (by decide) ?_
    obtain rfl := Option.some.inj h
    exact W.zret (v := (0 : Int32)) hx hb hr rfl (fun t ht hW => ⟨⟨_, (), rfl, rfl, by rw [ht]; exact hP, hD⟩, hS.F ht⟩) hS.2.2 dX8_goesOn_23
  · rw [if_pos g] at h
    refine lv_aload_n hx hb dX8_goesOn_7 rfl (lv_at hl 0 rfl) ?_
    refine va_get (D := D) (ci := 8) (v := .int vT2) (C := RX8) (T := TX8) (N := 6) hx hb hts huX8 hown hK hP 0 rfl rfl 2 (by decide) (hts (.fieldLink RX8 23 "VerseColumns$Text" "place" "I") (by decide +kernel)) (fun _ h9 => h9) rfl dX8_goesOn_8 ?_
    refine lv_aload_n hx hb dX8_goesOn_11 rfl (lv_at hl 0 rfl) ?_
    refine va_get (D := D) (ci := 8) (v := .int vT1) (C := RX8) (T := TX8) (N := 6) hx hb hts huX8 hown hK hP 0 rfl rfl 1 (by decide) (hts (.fieldLink RX8 15 "VerseColumns$Text" "length" "I") (by decide +kernel)) (fun _ h9 => h9) rfl dX8_goesOn_12 ?_
    refine lv_icmp_ge (tgt := 22) hx hb dX8_goesOn_15 (by decide) (fun g => ?_) (fun g => ?_)
    · rw [if_pos g] at h
      refine lv_iconst (v := (0 : Int32)) hx hb dX8_goesOn_22 (by decide) ?_
      obtain rfl := Option.some.inj h
      exact W.zret (v := (0 : Int32)) hx hb hr rfl (fun t ht hW => ⟨⟨_, (), rfl, rfl, by rw [ht]; exact hP, hD⟩, hS.F ht⟩) hS.2.2 dX8_goesOn_23
    · rw [if_neg g] at h
      refine lv_iconst (v := (1 : Int32)) hx hb dX8_goesOn_18 (by decide) ?_
      refine lv_goto (tgt := 23) hx hb dX8_goesOn_19 (by decide) ?_
      obtain rfl := Option.some.inj h
      exact W.zret (v := (1 : Int32)) hx hb hr rfl (fun t ht hW => ⟨⟨_, (), rfl, rfl, by rw [ht]; exact hP, hD⟩, hS.F ht⟩) hS.2.2 dX8_goesOn_23
set_option maxHeartbeats 8000000 in
set_option maxRecDepth 100000 in
theorem kX8_signAt (l : Launch) (D : va_G) (cI cC cS : ClassId) (aT : Nat × Nat) (vT0 : (Nat → Int32)) (vT1 : Int32) (vT2 : Int32) (vT3 : Int32) (vT4 : Int32) (vT5 : Int32) (i1 : Int32) (sz : Nat) {q : Int32} (h : pX8_signAt vT0 vT1 i1 = some q) : kMi l yX8_signAt wsX8_signAt ({ frames := 0, cells := 0, slots := 0, locals := 0 } : Room) D (kTy cI cC cS) [.ref aT.1, .int i1] (wTX cC aT vT0 vT1 vT2 vT3 vT4 vT5) sz q (wTX cC aT vT0 vT1 vT2 vT3 vT4 vT5) := by
  refine Met.ofW (cc := cX8_signAt) (maxL := 2) (ret := (some .char)) (by decide) rfl ?_
  intro p e s m args below meth c s₁ B hml hv
  obtain ⟨rfl, hsz, hP, hK, hD0, hN⟩ := hv
  have hx := B.exec
  have hb := B.bytes
  have hr := B.returns
  have hts := atoms_spec (ws := wsX8_signAt) B.pre
  have hown : s.vm.findClass RX8 = some m.cls := findClass_of_methodNamed B.named
  have hlocks := B.notSynchronized
  subst hsz
  have hD := hD0.self (sz := s.heap.size)
  generalize hAe : va_A (wTX cC aT vT0 vT1 vT2 vT3 vT4 vT5) s.heap.size = A at hD ⊢
  have hA : ∀ q : Nat, s.heap.size ≤ q → A q := fun q h => by rw [← hAe]; exact Or.inr h
  have hS : va_S A s.heap s.heap [] := va_S.rf
  have huX8 : ∀ w ∈ u_ws RX8 TX8 6, w ∈ wsX8_signAt := by decide +kernel
  have hl := lv_entry ([.ref aT.1, .int i1]) (n := 2) (Nat.le_of_ble_eq_true rfl)
  rw [lg_entry_eq]
  generalize (lg_sl ([.ref aT.1, .int i1]) ++ List.replicate (2 - (lg_sl ([.ref aT.1, .int i1])).length) Slot.unset).toArray = ls at hl ⊢
  have hl : lv_has ls 2 [(0, .ref aT.1), (1, .int i1)] := hl
  unfold pX8_signAt at h
  refine lv_iload_n hx hb dX8_signAt_0 rfl (lv_at hl 1 rfl) ?_
  refine lv_if_lt (tgt := 27) hx hb dX8_signAt_1 (by decide) (fun g => ?_) (fun g => ?_)
  · rw [if_pos g] at h
    refine lv_iconst (v := (0 : Int32)) hx hb dX8_signAt_27 (by decide) ?_
    obtain rfl := Option.some.inj h
    exact W.zret (v := (0 : Int32)) hx hb hr rfl (fun t ht hW => ⟨⟨_, (), rfl, rfl, by rw [ht]; exact hP, hD⟩, hS.F ht⟩) hS.2.2 dX8_signAt_28
  · rw [if_neg g] at h
    refine lv_iload_n hx hb dX8_signAt_4 rfl (lv_at hl 1 rfl) ?_
    refine lv_aload_n hx hb dX8_signAt_5 rfl (lv_at hl 0 rfl) ?_
    refine va_get (D := D) (ci := 8) (v := .int vT1) (C := RX8) (T := TX8) (N := 6) hx hb hts huX8 hown hK hP 0 rfl rfl 1 (by decide) (hts (.fieldLink RX8 15 "VerseColumns$Text" "length" "I") (by decide +kernel)) (fun _ h9 => h9) rfl dX8_signAt_6 ?_
    refine lv_icmp_ge (tgt := 27) hx hb dX8_signAt_9 (by decide) (fun g => ?_) (fun g => ?_)
    · rw [if_pos g] at h
      refine lv_iconst (v := (0 : Int32)) hx hb dX8_signAt_27 (by decide) ?_
      obtain rfl := Option.some.inj h
      exact W.zret (v := (0 : Int32)) hx hb hr rfl (fun t ht hW => ⟨⟨_, (), rfl, rfl, by rw [ht]; exact hP, hD⟩, hS.F ht⟩) hS.2.2 dX8_signAt_28
    · rw [if_neg g] at h
      refine lv_iload_n hx hb dX8_signAt_12 rfl (lv_at hl 1 rfl) ?_
      refine lv_bipush (v := (80 : Int32)) hx hb dX8_signAt_13 (by decide) ?_
      refine lv_icmp_ge (tgt := 27) hx hb dX8_signAt_15 (by decide) (fun g => ?_) (fun g => ?_)
      · rw [if_pos g] at h
        refine lv_iconst (v := (0 : Int32)) hx hb dX8_signAt_27 (by decide) ?_
        obtain rfl := Option.some.inj h
        exact W.zret (v := (0 : Int32)) hx hb hr rfl (fun t ht hW => ⟨⟨_, (), rfl, rfl, by rw [ht]; exact hP, hD⟩, hS.F ht⟩) hS.2.2 dX8_signAt_28
      · rw [if_neg g] at h
        refine lv_aload_n hx hb dX8_signAt_18 rfl (lv_at hl 0 rfl) ?_
        refine va_get (D := D) (ci := 8) (v := .ref aT.2) (C := RX8) (T := TX8) (N := 6) hx hb hts huX8 hown hK hP 0 rfl rfl 0 (by decide) (hts (.fieldLink RX8 9 "VerseColumns$Text" "signs" "[C") (by decide +kernel)) (fun _ h9 => h9) rfl dX8_signAt_19 ?_
        refine lv_iload_n hx hb dX8_signAt_22 rfl (lv_at hl 1 rfl) ?_
        obtain ⟨g, h⟩ := kif h
        refine va_cald hx hb hK hP 1 1 rfl rfl (kin g) dX8_signAt_23 ?_
        refine lv_goto (tgt := 28) hx hb dX8_signAt_24 (by decide) ?_
        obtain ⟨g, h⟩ := kif h
        obtain rfl := Option.some.inj h
        exact W.zret (v := (vT0 i1.toNatClampNeg)) hx hb hr (kCh g) (fun t ht hW => ⟨⟨_, (), rfl, rfl, by rw [ht]; exact hP, hD⟩, hS.F ht⟩) hS.2.2 dX8_signAt_28
set_option maxHeartbeats 8000000 in
set_option maxRecDepth 100000 in
theorem kX8_stands (l : Launch) (D : va_G) (cI cC cS : ClassId) (aT : Nat × Nat) (vT0 : (Nat → Int32)) (vT1 : Int32) (vT2 : Int32) (vT3 : Int32) (vT4 : Int32) (vT5 : Int32) (i1 : Int32) (sz : Nat) {q : Int32} (h : pX8_stands vT0 vT1 vT2 vT3 i1 = some q) : kMi l yX8_stands wsX8_stands ({ frames := 2, cells := 0, slots := 0, locals := 40 } : Room) D (kTy cI cC cS) [.ref aT.1, .int i1] (wTX cC aT vT0 vT1 vT2 vT3 vT4 vT5) sz q (wTX cC aT vT0 vT1 vT2 vT3 vT4 vT5) := by
  refine Met.ofW (cc := cX8_stands) (maxL := 2) (ret := (some .boolean)) (by decide) rfl ?_
  intro p e s m args below meth c s₁ B hml hv
  obtain ⟨rfl, hsz, hP, hK, hD0, hN⟩ := hv
  have hx := B.exec
  have hb := B.bytes
  have hr := B.returns
  have hts := atoms_spec (ws := wsX8_stands) B.pre
  have hown : s.vm.findClass RX8 = some m.cls := findClass_of_methodNamed B.named
  have hlocks := B.notSynchronized
  subst hsz
  have hD := hD0.self (sz := s.heap.size)
  generalize hAe : va_A (wTX cC aT vT0 vT1 vT2 vT3 vT4 vT5) s.heap.size = A at hD ⊢
  have hA : ∀ q : Nat, s.heap.size ≤ q → A q := fun q h => by rw [← hAe]; exact Or.inr h
  have hS : va_S A s.heap s.heap [] := va_S.rf
  have huX8 : ∀ w ∈ u_ws RX8 TX8 6, w ∈ wsX8_stands := by decide +kernel
  have hl := lv_entry ([.ref aT.1, .int i1]) (n := 2) (Nat.le_of_ble_eq_true rfl)
  rw [lg_entry_eq]
  generalize (lg_sl ([.ref aT.1, .int i1]) ++ List.replicate (2 - (lg_sl ([.ref aT.1, .int i1])).length) Slot.unset).toArray = ls at hl ⊢
  have hl : lv_has ls 2 [(0, .ref aT.1), (1, .int i1)] := hl
  unfold pX8_stands at h
  refine lv_aload_n hx hb dX8_stands_0 rfl (lv_at hl 0 rfl) ?_
  obtain ⟨q2, h1, h⟩ := Option.bind_eq_some_iff.mp h
  refine kcir [0, 1] (va_runV (As := []) (rest := []) ⟨hx, hb, hml, hown, hts⟩ (kX8_goesOn l D cI cC cS aT vT0 vT1 vT2 vT3 vT4 vT5 s.heap.size h1) (cwV 0 hts gX8_stands_X8_goesOn rfl rfl rfl (by decide +kernel) ⟨Nat.le_of_ble_eq_true rfl, Nat.le_of_ble_eq_true rfl⟩) (kpreV hK hN hP hD [0, 1] rfl (by decide) 8 rfl rfl) rfl rfl hl.1 rfl (lv_room (Nat.le_of_ble_eq_true rfl)) dX8_stands_1 ⟨Nat.le_refl _, Nat.le_refl _⟩) hP hD hS hA rfl (fun H locs hP hS => ?_)
  refine lv_if_eq (tgt := 23) hx hb dX8_stands_4 (by decide) (fun g => ?_) (fun g => ?_)
  · rw [if_pos g] at h
    refine lv_iconst (v := (0 : Int32)) hx hb dX8_stands_23 (by decide) ?_
    obtain rfl := Option.some.inj h
    exact W.zret (v := (0 : Int32)) hx hb hr rfl (fun t ht hW => ⟨⟨_, (), rfl, rfl, by rw [ht]; exact hP, hD⟩, hS.F ht⟩) hS.2.2 dX8_stands_24
  · rw [if_neg g] at h
    refine lv_aload_n hx hb dX8_stands_7 rfl (lv_at hl 0 rfl) ?_
    refine lv_aload_n hx hb dX8_stands_8 rfl (lv_at hl 0 rfl) ?_
    refine va_get (D := D) (ci := 8) (v := .int vT2) (C := RX8) (T := TX8) (N := 6) hx hb hts huX8 hown hK hP 0 rfl rfl 2 (by decide) (hts (.fieldLink RX8 23 "VerseColumns$Text" "place" "I") (by decide +kernel)) (fun _ h9 => h9) rfl dX8_stands_9 ?_
    obtain ⟨q4, h3, h⟩ := Option.bind_eq_some_iff.mp h
    refine kcir [0, 1] (va_runV (As := [.int vT2]) (rest := []) ⟨hx, hb, hml, hown, hts⟩ (kX8_signAt l D cI cC cS aT vT0 vT1 vT2 vT3 vT4 vT5 vT2 H.size h3) (cwV 1 hts gX8_stands_X8_signAt rfl rfl rfl (by decide +kernel) ⟨Nat.le_of_ble_eq_true rfl, Nat.le_of_ble_eq_true rfl⟩) (kpreV hK hN hP hD [0, 1] rfl (by decide) 8 rfl rfl) rfl rfl hl.1 rfl (lv_room (Nat.le_of_ble_eq_true rfl)) dX8_stands_12 ⟨Nat.le_refl _, Nat.le_refl _⟩) hP hD hS hA rfl (fun H locs hP hS => ?_)
    refine lv_iload_n hx hb dX8_stands_15 rfl (lv_at hl 1 rfl) ?_
    refine lv_icmp_ne (tgt := 23) hx hb dX8_stands_16 (by decide) (fun g => ?_) (fun g => ?_)
    · rw [if_neg g] at h
      refine lv_iconst (v := (0 : Int32)) hx hb dX8_stands_23 (by decide) ?_
      obtain rfl := Option.some.inj h
      exact W.zret (v := (0 : Int32)) hx hb hr rfl (fun t ht hW => ⟨⟨_, (), rfl, rfl, by rw [ht]; exact hP, hD⟩, hS.F ht⟩) hS.2.2 dX8_stands_24
    · rw [if_pos g] at h
      refine lv_iconst (v := (1 : Int32)) hx hb dX8_stands_19 (by decide) ?_
      refine lv_goto (tgt := 24) hx hb dX8_stands_20 (by decide) ?_
      obtain rfl := Option.some.inj h
      exact W.zret (v := (1 : Int32)) hx hb hr rfl (fun t ht hW => ⟨⟨_, (), rfl, rfl, by rw [ht]; exact hP, hD⟩, hS.F ht⟩) hS.2.2 dX8_stands_24
set_option maxHeartbeats 8000000 in
set_option maxRecDepth 100000 in
theorem kX8_failAt (l : Launch) (D : va_G) (cI cC cS : ClassId) (aT : Nat × Nat) (vT0 : (Nat → Int32)) (vT1 : Int32) (vT2 : Int32) (vT3 : Int32) (vT4 : Int32) (vT5 : Int32) (i1 : Int32) (sz : Nat) {q : Int32} (h : pX8_failAt vT3 i1 = some q) : kMv l yX8_failAt wsX8_failAt ({ frames := 0, cells := 0, slots := 0, locals := 0 } : Room) D (kTy cI cC cS) [.ref aT.1, .int i1] (wTX cC aT vT0 vT1 vT2 vT3 vT4 vT5) sz (wTX cC aT vT0 vT1 vT2 q vT4 vT5) := by
  refine Met.ofW (cc := cX8_failAt) (maxL := 2) (ret := none) (by decide) rfl ?_
  intro p e s m args below meth c s₁ B hml hv
  obtain ⟨rfl, hsz, hP, hK, hD0, hN⟩ := hv
  have hx := B.exec
  have hb := B.bytes
  have hr := B.returns
  have hts := atoms_spec (ws := wsX8_failAt) B.pre
  have hown : s.vm.findClass RX8 = some m.cls := findClass_of_methodNamed B.named
  have hlocks := B.notSynchronized
  subst hsz
  have hD := hD0.self (sz := s.heap.size)
  generalize hAe : va_A (wTX cC aT vT0 vT1 vT2 vT3 vT4 vT5) s.heap.size = A at hD ⊢
  have hA : ∀ q : Nat, s.heap.size ≤ q → A q := fun q h => by rw [← hAe]; exact Or.inr h
  have hS : va_S A s.heap s.heap [] := va_S.rf
  have huX8 : ∀ w ∈ u_ws RX8 TX8 6, w ∈ wsX8_failAt := by decide +kernel
  have hl := lv_entry ([.ref aT.1, .int i1]) (n := 2) (Nat.le_of_ble_eq_true rfl)
  rw [lg_entry_eq]
  generalize (lg_sl ([.ref aT.1, .int i1]) ++ List.replicate (2 - (lg_sl ([.ref aT.1, .int i1])).length) Slot.unset).toArray = ls at hl ⊢
  have hl : lv_has ls 2 [(0, .ref aT.1), (1, .int i1)] := hl
  unfold pX8_failAt at h
  refine lv_aload_n hx hb dX8_failAt_0 rfl (lv_at hl 0 rfl) ?_
  refine va_get (D := D) (ci := 8) (v := .int vT3) (C := RX8) (T := TX8) (N := 6) hx hb hts huX8 hown hK hP 0 rfl rfl 3 (by decide) (hts (.fieldLink RX8 26 "VerseColumns$Text" "fault" "I") (by decide +kernel)) (fun _ h9 => h9) rfl dX8_failAt_1 ?_
  refine lv_iconst (v := (-1 : Int32)) hx hb dX8_failAt_4 (by decide) ?_
  refine lv_icmp_ne (tgt := 13) hx hb dX8_failAt_5 (by decide) (fun g => ?_) (fun g => ?_)
  · rw [if_neg g] at h
    obtain rfl := Option.some.inj h
    exact W.vret hx hb hr (fun t ht hW => ⟨⟨(), rfl, trivial, by rw [ht]; exact hP, hD⟩, hS.F ht⟩) hS.2.2 dX8_failAt_13
  · rw [if_pos g] at h
    refine lv_aload_n hx hb dX8_failAt_8 rfl (lv_at hl 0 rfl) ?_
    refine lv_iload_n hx hb dX8_failAt_9 rfl (lv_at hl 1 rfl) ?_
    refine va_put (D := D) (ci := 8) (v := .int i1) (ty := .int) (C := RX8) (T := TX8) (N := 6) hx hb hts huX8 tyX8 tyX8_ok nmX8 hown hK hP hD hS 0 rfl rfl 3 (by decide) (hts (.fieldLink RX8 26 "VerseColumns$Text" "fault" "I") (by decide +kernel)) (fun _ h9 => h9) rfl (by decide +kernel) rfl rfl (Nat.le_of_ble_eq_true rfl) dX8_failAt_10 (fun H locs hP hD hS => ?_)
    have hP : va_P D vwCl (wTX cC aT vT0 vT1 vT2 i1 vT4 vT5) H := hP
    have hD : va_D A (wTX cC aT vT0 vT1 vT2 i1 vT4 vT5) := hD
    obtain rfl := Option.some.inj h
    exact W.vret hx hb hr (fun t ht hW => ⟨⟨(), rfl, trivial, by rw [ht]; exact hP, hD⟩, hS.F ht⟩) hS.2.2 dX8_failAt_13
set_option maxHeartbeats 8000000 in
set_option maxRecDepth 100000 in
theorem kX8_failAtNumber (l : Launch) (D : va_G) (cI cC cS : ClassId) (aT : Nat × Nat) (vT0 : (Nat → Int32)) (vT1 : Int32) (vT2 : Int32) (vT3 : Int32) (vT4 : Int32) (vT5 : Int32) (sz : Nat) {q : Int32} (h : pX8_failAtNumber vT3 vT5 = some q) : kMv l yX8_failAtNumber wsX8_failAtNumber ({ frames := 1, cells := 0, slots := 0, locals := 21 } : Room) D (kTy cI cC cS) [.ref aT.1] (wTX cC aT vT0 vT1 vT2 vT3 vT4 vT5) sz (wTX cC aT vT0 vT1 vT2 q vT4 vT5) := by
  refine Met.ofW (cc := cX8_failAtNumber) (maxL := 1) (ret := none) (by decide) rfl ?_
  intro p e s m args below meth c s₁ B hml hv
  obtain ⟨rfl, hsz, hP, hK, hD0, hN⟩ := hv
  have hx := B.exec
  have hb := B.bytes
  have hr := B.returns
  have hts := atoms_spec (ws := wsX8_failAtNumber) B.pre
  have hown : s.vm.findClass RX8 = some m.cls := findClass_of_methodNamed B.named
  have hlocks := B.notSynchronized
  subst hsz
  have hD := hD0.self (sz := s.heap.size)
  generalize hAe : va_A (wTX cC aT vT0 vT1 vT2 vT3 vT4 vT5) s.heap.size = A at hD ⊢
  have hA : ∀ q : Nat, s.heap.size ≤ q → A q := fun q h => by rw [← hAe]; exact Or.inr h
  have hS : va_S A s.heap s.heap [] := va_S.rf
  have huX8 : ∀ w ∈ u_ws RX8 TX8 6, w ∈ wsX8_failAtNumber := by decide +kernel
  have hl := lv_entry ([.ref aT.1]) (n := 1) (Nat.le_of_ble_eq_true rfl)
  rw [lg_entry_eq]
  generalize (lg_sl ([.ref aT.1]) ++ List.replicate (1 - (lg_sl ([.ref aT.1])).length) Slot.unset).toArray = ls at hl ⊢
  have hl : lv_has ls 1 [(0, .ref aT.1)] := hl
  unfold pX8_failAtNumber at h
  refine lv_aload_n hx hb dX8_failAtNumber_0 rfl (lv_at hl 0 rfl) ?_
  refine lv_aload_n hx hb dX8_failAtNumber_1 rfl (lv_at hl 0 rfl) ?_
  refine va_get (D := D) (ci := 8) (v := .int vT5) (C := RX8) (T := TX8) (N := 6) hx hb hts huX8 hown hK hP 0 rfl rfl 5 (by decide) (hts (.fieldLink RX8 32 "VerseColumns$Text" "numberStart" "I") (by decide +kernel)) (fun _ h9 => h9) rfl dX8_failAtNumber_2 ?_
  obtain ⟨q2, h1, h⟩ := Option.bind_eq_some_iff.mp h
  refine kcvw (ws' := (wTX cC aT vT0 vT1 vT2 q2 vT4 vT5)) [0, 1] (va_runV (As := [.int vT5]) (rest := []) ⟨hx, hb, hml, hown, hts⟩ (kX8_failAt l D cI cC cS aT vT0 vT1 vT2 vT3 vT4 vT5 vT5 s.heap.size h1) (cwV 1 hts gX8_failAtNumber_X8_failAt rfl rfl rfl (by decide +kernel) ⟨Nat.le_of_ble_eq_true rfl, Nat.le_of_ble_eq_true rfl⟩) (kpreV hK hN hP hD [0, 1] rfl (by decide) 8 rfl rfl) rfl rfl hl.1 rfl (lv_room (Nat.le_of_ble_eq_true rfl)) dX8_failAtNumber_5 ⟨Nat.le_refl _, Nat.le_refl _⟩) hP hD hS hA rfl (by decide) rfl [1, 2] (by decide +kernel) rfl (fun H locs hP hD hS => ?_)
  obtain rfl := Option.some.inj h
  exact W.vret hx hb hr (fun t ht hW => ⟨⟨(), rfl, trivial, by rw [ht]; exact hP, hD⟩, hS.F ht⟩) hS.2.2 dX8_failAtNumber_8
set_option maxHeartbeats 8000000 in
set_option maxRecDepth 100000 in
theorem kX8_skip (l : Launch) (D : va_G) (cI cC cS : ClassId) (aT : Nat × Nat) (vT0 : (Nat → Int32)) (vT1 : Int32) (vT2 : Int32) (vT3 : Int32) (vT4 : Int32) (vT5 : Int32) (i1 : Int32) (sz : Nat) {q : Int32 × Int32} (h : pX8_skip vT0 vT1 vT2 vT3 i1 = some q) : kMv l yX8_skip wsX8_skip ({ frames := 3, cells := 0, slots := 0, locals := 61 } : Room) D (kTy cI cC cS) [.ref aT.1, .int i1] (wTX cC aT vT0 vT1 vT2 vT3 vT4 vT5) sz (wTX cC aT vT0 vT1 q.1 q.2 vT4 vT5) := by
  refine Met.ofW (cc := cX8_skip) (maxL := 2) (ret := none) (by decide) rfl ?_
  intro p e s m args below meth c s₁ B hml hv
  obtain ⟨rfl, hsz, hP, hK, hD0, hN⟩ := hv
  have hx := B.exec
  have hb := B.bytes
  have hr := B.returns
  have hts := atoms_spec (ws := wsX8_skip) B.pre
  have hown : s.vm.findClass RX8 = some m.cls := findClass_of_methodNamed B.named
  have hlocks := B.notSynchronized
  subst hsz
  have hD := hD0.self (sz := s.heap.size)
  generalize hAe : va_A (wTX cC aT vT0 vT1 vT2 vT3 vT4 vT5) s.heap.size = A at hD ⊢
  have hA : ∀ q : Nat, s.heap.size ≤ q → A q := fun q h => by rw [← hAe]; exact Or.inr h
  have hS : va_S A s.heap s.heap [] := va_S.rf
  have huX8 : ∀ w ∈ u_ws RX8 TX8 6, w ∈ wsX8_skip := by decide +kernel
  have hl := lv_entry ([.ref aT.1, .int i1]) (n := 2) (Nat.le_of_ble_eq_true rfl)
  rw [lg_entry_eq]
  generalize (lg_sl ([.ref aT.1, .int i1]) ++ List.replicate (2 - (lg_sl ([.ref aT.1, .int i1])).length) Slot.unset).toArray = ls at hl ⊢
  have hl : lv_has ls 2 [(0, .ref aT.1), (1, .int i1)] := hl
  unfold pX8_skip at h
  refine lv_aload_n hx hb dX8_skip_0 rfl (lv_at hl 0 rfl) ?_
  refine lv_iload_n hx hb dX8_skip_1 rfl (lv_at hl 1 rfl) ?_
  obtain ⟨q2, h1, h⟩ := Option.bind_eq_some_iff.mp h
  refine kcir [0, 1] (va_runV (As := [.int i1]) (rest := []) ⟨hx, hb, hml, hown, hts⟩ (kX8_stands l D cI cC cS aT vT0 vT1 vT2 vT3 vT4 vT5 i1 s.heap.size h1) (cwV 1 hts gX8_skip_X8_stands rfl rfl rfl (by decide +kernel) ⟨Nat.le_of_ble_eq_true rfl, Nat.le_of_ble_eq_true rfl⟩) (kpreV hK hN hP hD [0, 1] rfl (by decide) 8 rfl rfl) rfl rfl hl.1 rfl (lv_room (Nat.le_of_ble_eq_true rfl)) dX8_skip_2 ⟨Nat.le_refl _, Nat.le_refl _⟩) hP hD hS hA rfl (fun H locs hP hS => ?_)
  refine lv_if_eq (tgt := 21) hx hb dX8_skip_5 (by decide) (fun g => ?_) (fun g => ?_)
  · rw [if_pos g] at h
    refine lv_aload_n hx hb dX8_skip_21 rfl (lv_at hl 0 rfl) ?_
    refine lv_aload_n hx hb dX8_skip_22 rfl (lv_at hl 0 rfl) ?_
    refine va_get (D := D) (ci := 8) (v := .int vT2) (C := RX8) (T := TX8) (N := 6) hx hb hts huX8 hown hK hP 0 rfl rfl 2 (by decide) (hts (.fieldLink RX8 23 "VerseColumns$Text" "place" "I") (by decide +kernel)) (fun _ h9 => h9) rfl dX8_skip_23 ?_
    obtain ⟨q4, h3, h⟩ := Option.bind_eq_some_iff.mp h
    refine kcvw (ws' := (wTX cC aT vT0 vT1 vT2 q4 vT4 vT5)) [0, 1] (va_runV (As := [.int vT2]) (rest := []) ⟨hx, hb, hml, hown, hts⟩ (kX8_failAt l D cI cC cS aT vT0 vT1 vT2 vT3 vT4 vT5 vT2 H.size h3) (cwV 1 hts gX8_skip_X8_failAt rfl rfl rfl (by decide +kernel) ⟨Nat.le_of_ble_eq_true rfl, Nat.le_of_ble_eq_true rfl⟩) (kpreV hK hN hP hD [0, 1] rfl (by decide) 8 rfl rfl) rfl rfl hl.1 rfl (lv_room (Nat.le_of_ble_eq_true rfl)) dX8_skip_26 ⟨Nat.le_refl _, Nat.le_refl _⟩) hP hD hS hA rfl (by decide) rfl [1, 2] (by decide +kernel) rfl (fun H locs hP hD hS => ?_)
    obtain rfl := Option.some.inj h
    exact W.vret hx hb hr (fun t ht hW => ⟨⟨(), rfl, trivial, by rw [ht]; exact hP, hD⟩, hS.F ht⟩) hS.2.2 dX8_skip_29
  · rw [if_neg g] at h
    refine lv_aload_n hx hb dX8_skip_8 rfl (lv_at hl 0 rfl) ?_
    refine lv_dup hx hb dX8_skip_9 rfl ?_
    refine va_get (D := D) (ci := 8) (v := .int vT2) (C := RX8) (T := TX8) (N := 6) hx hb hts huX8 hown hK hP 0 rfl rfl 2 (by decide) (hts (.fieldLink RX8 23 "VerseColumns$Text" "place" "I") (by decide +kernel)) (fun _ h9 => h9) rfl dX8_skip_10 ?_
    refine lv_iconst (v := (1 : Int32)) hx hb dX8_skip_13 (by decide) ?_
    refine lv_iadd hx hb dX8_skip_14 ?_
    refine va_put (D := D) (ci := 8) (v := .int (vT2 + (1 : Int32))) (ty := .int) (C := RX8) (T := TX8) (N := 6) hx hb hts huX8 tyX8 tyX8_ok nmX8 hown hK hP hD hS 0 rfl rfl 2 (by decide) (hts (.fieldLink RX8 23 "VerseColumns$Text" "place" "I") (by decide +kernel)) (fun _ h9 => h9) rfl (by decide +kernel) rfl rfl (Nat.le_of_ble_eq_true rfl) dX8_skip_15 (fun H locs hP hD hS => ?_)
    have hP : va_P D vwCl (wTX cC aT vT0 vT1 (vT2 + (1 : Int32)) vT3 vT4 vT5) H := hP
    have hD : va_D A (wTX cC aT vT0 vT1 (vT2 + (1 : Int32)) vT3 vT4 vT5) := hD
    refine lv_goto (tgt := 29) hx hb dX8_skip_18 (by decide) ?_
    obtain rfl := Option.some.inj h
    exact W.vret hx hb hr (fun t ht hW => ⟨⟨(), rfl, trivial, by rw [ht]; exact hP, hD⟩, hS.F ht⟩) hS.2.2 dX8_skip_29
set_option maxHeartbeats 8000000 in
set_option maxRecDepth 100000 in
theorem kX8_readSign (l : Launch) (D : va_G) (cI cC cS : ClassId) (aT : Nat × Nat) (vT0 : (Nat → Int32)) (vT1 : Int32) (vT2 : Int32) (vT3 : Int32) (vT4 : Int32) (vT5 : Int32) (sz : Nat) {q : Int32 × Int32 × Int32} (h : pX8_readSign vT0 vT1 vT2 vT3 = some q) : kMi l yX8_readSign wsX8_readSign ({ frames := 3, cells := 0, slots := 0, locals := 61 } : Room) D (kTy cI cC cS) [.ref aT.1] (wTX cC aT vT0 vT1 vT2 vT3 vT4 vT5) sz q.1 (wTX cC aT vT0 vT1 q.2.1 q.2.2 vT4 vT5) := by
  refine Met.ofW (cc := cX8_readSign) (maxL := 1) (ret := (some .char)) (by decide) rfl ?_
  intro p e s m args below meth c s₁ B hml hv
  obtain ⟨rfl, hsz, hP, hK, hD0, hN⟩ := hv
  have hx := B.exec
  have hb := B.bytes
  have hr := B.returns
  have hts := atoms_spec (ws := wsX8_readSign) B.pre
  have hown : s.vm.findClass RX8 = some m.cls := findClass_of_methodNamed B.named
  have hlocks := B.notSynchronized
  subst hsz
  have hD := hD0.self (sz := s.heap.size)
  generalize hAe : va_A (wTX cC aT vT0 vT1 vT2 vT3 vT4 vT5) s.heap.size = A at hD ⊢
  have hA : ∀ q : Nat, s.heap.size ≤ q → A q := fun q h => by rw [← hAe]; exact Or.inr h
  have hS : va_S A s.heap s.heap [] := va_S.rf
  have huX8 : ∀ w ∈ u_ws RX8 TX8 6, w ∈ wsX8_readSign := by decide +kernel
  have hl := lv_entry ([.ref aT.1]) (n := 1) (Nat.le_of_ble_eq_true rfl)
  rw [lg_entry_eq]
  generalize (lg_sl ([.ref aT.1]) ++ List.replicate (1 - (lg_sl ([.ref aT.1])).length) Slot.unset).toArray = ls at hl ⊢
  have hl : lv_has ls 1 [(0, .ref aT.1)] := hl
  have j36 : ∀ (c0_2 : Int32) (c0_3 : Int32) (H : Heap) (locs : List Loc) (ls : Array Slot), pX8_readSign_j36 vT0 vT1 c0_2 c0_3 = some q → va_P D vwCl (wTX cC aT vT0 vT1 c0_2 c0_3 vT4 vT5) H → va_D A (wTX cC aT vT0 vT1 c0_2 c0_3 vT4 vT5) → va_S A s.heap H locs → lv_has ls 1 [(0, .ref aT.1)] → W p l e ({ frames := 3, cells := 0, slots := 0, locals := 61 } : Room) s m ([.ref aT.1] : List Value).toArray below meth c H locs 0 0 (MQ below (va_Qi (fun (r : Int32) (_ : Unit) => r = q.1) (fun _ => kPost D (wTX cC aT vT0 vT1 q.2.1 q.2.2 vT4 vT5) A) A) ([.ref aT.1] : List Value).toArray s 0 0 A) (F0 m 36 ls []) := by
    clear h hP hD hS hl
    intro c0_2 c0_3 H locs ls h hP hD hS hl
    unfold pX8_readSign_j36 at h
    refine lv_aload_n hx hb dX8_readSign_36 rfl (lv_at hl 0 rfl) ?_
    refine lv_dup hx hb dX8_readSign_37 rfl ?_
    refine va_get (D := D) (ci := 8) (v := .int c0_2) (C := RX8) (T := TX8) (N := 6) hx hb hts huX8 hown hK hP 0 rfl rfl 2 (by decide) (hts (.fieldLink RX8 23 "VerseColumns$Text" "place" "I") (by decide +kernel)) (fun _ h9 => h9) rfl dX8_readSign_38 ?_
    refine lv_iconst (v := (1 : Int32)) hx hb dX8_readSign_41 (by decide) ?_
    refine lv_iadd hx hb dX8_readSign_42 ?_
    refine va_put (D := D) (ci := 8) (v := .int (c0_2 + (1 : Int32))) (ty := .int) (C := RX8) (T := TX8) (N := 6) hx hb hts huX8 tyX8 tyX8_ok nmX8 hown hK hP hD hS 0 rfl rfl 2 (by decide) (hts (.fieldLink RX8 23 "VerseColumns$Text" "place" "I") (by decide +kernel)) (fun _ h9 => h9) rfl (by decide +kernel) rfl rfl (Nat.le_of_ble_eq_true rfl) dX8_readSign_43 (fun H locs hP hD hS => ?_)
    have hP : va_P D vwCl (wTX cC aT vT0 vT1 (c0_2 + (1 : Int32)) c0_3 vT4 vT5) H := hP
    have hD : va_D A (wTX cC aT vT0 vT1 (c0_2 + (1 : Int32)) c0_3 vT4 vT5) := hD
    refine lv_aload_n hx hb dX8_readSign_46 rfl (lv_at hl 0 rfl) ?_
    refine lv_aload_n hx hb dX8_readSign_47 rfl (lv_at hl 0 rfl) ?_
    refine va_get (D := D) (ci := 8) (v := .int (c0_2 + (1 : Int32))) (C := RX8) (T := TX8) (N := 6) hx hb hts huX8 hown hK hP 0 rfl rfl 2 (by decide) (hts (.fieldLink RX8 23 "VerseColumns$Text" "place" "I") (by decide +kernel)) (fun _ h9 => h9) rfl dX8_readSign_48 ?_
    refine lv_iconst (v := (1 : Int32)) hx hb dX8_readSign_51 (by decide) ?_
    refine lv_isub hx hb dX8_readSign_52 ?_
    obtain ⟨q4, h3, h⟩ := Option.bind_eq_some_iff.mp h
    refine kcir [0, 1] (va_runV (As := [.int ((c0_2 + (1 : Int32)) - (1 : Int32))]) (rest := []) ⟨hx, hb, hml, hown, hts⟩ (kX8_signAt l D cI cC cS aT vT0 vT1 (c0_2 + (1 : Int32)) c0_3 vT4 vT5 ((c0_2 + (1 : Int32)) - (1 : Int32)) H.size h3) (cwV 1 hts gX8_readSign_X8_signAt rfl rfl rfl (by decide +kernel) ⟨Nat.le_of_ble_eq_true rfl, Nat.le_of_ble_eq_true rfl⟩) (kpreV hK hN hP hD [0, 1] rfl (by decide) 8 rfl rfl) rfl rfl hl.1 rfl (lv_room (Nat.le_of_ble_eq_true rfl)) dX8_readSign_53 ⟨Nat.le_refl _, Nat.le_refl _⟩) hP hD hS hA rfl (fun H locs hP hS => ?_)
    obtain ⟨g, h⟩ := kif h
    obtain rfl := Option.some.inj h
    exact W.zret (v := q4) hx hb hr (kCh g) (fun t ht hW => ⟨⟨_, (), rfl, rfl, by rw [ht]; exact hP, hD⟩, hS.F ht⟩) hS.2.2 dX8_readSign_56
  unfold pX8_readSign at h
  refine lv_aload_n hx hb dX8_readSign_0 rfl (lv_at hl 0 rfl) ?_
  refine lv_bipush (v := (61 : Int32)) hx hb dX8_readSign_1 (by decide) ?_
  obtain ⟨q2, h1, h⟩ := Option.bind_eq_some_iff.mp h
  refine kcir [0, 1] (va_runV (As := [.int (61 : Int32)]) (rest := []) ⟨hx, hb, hml, hown, hts⟩ (kX8_stands l D cI cC cS aT vT0 vT1 vT2 vT3 vT4 vT5 (61 : Int32) s.heap.size h1) (cwV 1 hts gX8_readSign_X8_stands rfl rfl rfl (by decide +kernel) ⟨Nat.le_of_ble_eq_true rfl, Nat.le_of_ble_eq_true rfl⟩) (kpreV hK hN hP hD [0, 1] rfl (by decide) 8 rfl rfl) rfl rfl hl.1 rfl (lv_room (Nat.le_of_ble_eq_true rfl)) dX8_readSign_3 ⟨Nat.le_refl _, Nat.le_refl _⟩) hP hD hS hA rfl (fun H locs hP hS => ?_)
  refine lv_if_ne (tgt := 36) hx hb dX8_readSign_6 (by decide) (fun g => ?_) (fun g => ?_)
  · rw [if_neg g] at h
    exact j36 vT2 vT3 _ _ _ h hP hD hS (lv_sub hl [0] rfl)
  · rw [if_pos g] at h
    refine lv_aload_n hx hb dX8_readSign_9 rfl (lv_at hl 0 rfl) ?_
    refine lv_bipush (v := (60 : Int32)) hx hb dX8_readSign_10 (by decide) ?_
    obtain ⟨q6, h5, h⟩ := Option.bind_eq_some_iff.mp h
    refine kcir [0, 1] (va_runV (As := [.int (60 : Int32)]) (rest := []) ⟨hx, hb, hml, hown, hts⟩ (kX8_stands l D cI cC cS aT vT0 vT1 vT2 vT3 vT4 vT5 (60 : Int32) H.size h5) (cwV 1 hts gX8_readSign_X8_stands rfl rfl rfl (by decide +kernel) ⟨Nat.le_of_ble_eq_true rfl, Nat.le_of_ble_eq_true rfl⟩) (kpreV hK hN hP hD [0, 1] rfl (by decide) 8 rfl rfl) rfl rfl hl.1 rfl (lv_room (Nat.le_of_ble_eq_true rfl)) dX8_readSign_12 ⟨Nat.le_refl _, Nat.le_refl _⟩) hP hD hS hA rfl (fun H locs hP hS => ?_)
    refine lv_if_ne (tgt := 36) hx hb dX8_readSign_15 (by decide) (fun g => ?_) (fun g => ?_)
    · rw [if_neg g] at h
      exact j36 vT2 vT3 _ _ _ h hP hD hS (lv_sub hl [0] rfl)
    · rw [if_pos g] at h
      refine lv_aload_n hx hb dX8_readSign_18 rfl (lv_at hl 0 rfl) ?_
      refine lv_bipush (v := (62 : Int32)) hx hb dX8_readSign_19 (by decide) ?_
      obtain ⟨q8, h7, h⟩ := Option.bind_eq_some_iff.mp h
      refine kcir [0, 1] (va_runV (As := [.int (62 : Int32)]) (rest := []) ⟨hx, hb, hml, hown, hts⟩ (kX8_stands l D cI cC cS aT vT0 vT1 vT2 vT3 vT4 vT5 (62 : Int32) H.size h7) (cwV 1 hts gX8_readSign_X8_stands rfl rfl rfl (by decide +kernel) ⟨Nat.le_of_ble_eq_true rfl, Nat.le_of_ble_eq_true rfl⟩) (kpreV hK hN hP hD [0, 1] rfl (by decide) 8 rfl rfl) rfl rfl hl.1 rfl (lv_room (Nat.le_of_ble_eq_true rfl)) dX8_readSign_21 ⟨Nat.le_refl _, Nat.le_refl _⟩) hP hD hS hA rfl (fun H locs hP hS => ?_)
      refine lv_if_ne (tgt := 36) hx hb dX8_readSign_24 (by decide) (fun g => ?_) (fun g => ?_)
      · rw [if_neg g] at h
        exact j36 vT2 vT3 _ _ _ h hP hD hS (lv_sub hl [0] rfl)
      · rw [if_pos g] at h
        refine lv_aload_n hx hb dX8_readSign_27 rfl (lv_at hl 0 rfl) ?_
        refine lv_bipush (v := (43 : Int32)) hx hb dX8_readSign_28 (by decide) ?_
        obtain ⟨q10, h9, h⟩ := Option.bind_eq_some_iff.mp h
        refine kcir [0, 1] (va_runV (As := [.int (43 : Int32)]) (rest := []) ⟨hx, hb, hml, hown, hts⟩ (kX8_stands l D cI cC cS aT vT0 vT1 vT2 vT3 vT4 vT5 (43 : Int32) H.size h9) (cwV 1 hts gX8_readSign_X8_stands rfl rfl rfl (by decide +kernel) ⟨Nat.le_of_ble_eq_true rfl, Nat.le_of_ble_eq_true rfl⟩) (kpreV hK hN hP hD [0, 1] rfl (by decide) 8 rfl rfl) rfl rfl hl.1 rfl (lv_room (Nat.le_of_ble_eq_true rfl)) dX8_readSign_30 ⟨Nat.le_refl _, Nat.le_refl _⟩) hP hD hS hA rfl (fun H locs hP hS => ?_)
        refine lv_if_eq (tgt := 57) hx hb dX8_readSign_33 (by decide) (fun g => ?_) (fun g => ?_)
        · rw [if_pos g] at h
          refine lv_aload_n hx hb dX8_readSign_57 rfl (lv_at hl 0 rfl) ?_
          refine lv_aload_n hx hb dX8_readSign_58 rfl (lv_at hl 0 rfl) ?_
          refine va_get (D := D) (ci := 8) (v := .int vT2) (C := RX8) (T := TX8) (N := 6) hx hb hts huX8 hown hK hP 0 rfl rfl 2 (by decide) (hts (.fieldLink RX8 23 "VerseColumns$Text" "place" "I") (by decide +kernel)) (fun _ h9 => h9) rfl dX8_readSign_59 ?_
          obtain ⟨q12, h11, h⟩ := Option.bind_eq_some_iff.mp h
          refine kcvw (ws' := (wTX cC aT vT0 vT1 vT2 q12 vT4 vT5)) [0, 1] (va_runV (As := [.int vT2]) (rest := []) ⟨hx, hb, hml, hown, hts⟩ (kX8_failAt l D cI cC cS aT vT0 vT1 vT2 vT3 vT4 vT5 vT2 H.size h11) (cwV 1 hts gX8_readSign_X8_failAt rfl rfl rfl (by decide +kernel) ⟨Nat.le_of_ble_eq_true rfl, Nat.le_of_ble_eq_true rfl⟩) (kpreV hK hN hP hD [0, 1] rfl (by decide) 8 rfl rfl) rfl rfl hl.1 rfl (lv_room (Nat.le_of_ble_eq_true rfl)) dX8_readSign_62 ⟨Nat.le_refl _, Nat.le_refl _⟩) hP hD hS hA rfl (by decide) rfl [1, 2] (by decide +kernel) rfl (fun H locs hP hD hS => ?_)
          refine lv_iconst (v := (0 : Int32)) hx hb dX8_readSign_65 (by decide) ?_
          obtain rfl := Option.some.inj h
          exact W.zret (v := (0 : Int32)) hx hb hr rfl (fun t ht hW => ⟨⟨_, (), rfl, rfl, by rw [ht]; exact hP, hD⟩, hS.F ht⟩) hS.2.2 dX8_readSign_66
        · rw [if_neg g] at h
          exact j36 vT2 vT3 _ _ _ h hP hD hS (lv_sub hl [0] rfl)
set_option maxHeartbeats 8000000 in
set_option maxRecDepth 100000 in
theorem kX8_isDigit (l : Launch) (D : va_G) (cI cC cS : ClassId) (aT : Nat × Nat) (vT0 : (Nat → Int32)) (vT1 : Int32) (vT2 : Int32) (vT3 : Int32) (vT4 : Int32) (vT5 : Int32) (i1 : Int32) (sz : Nat) {q : Int32} (h : pX8_isDigit vT0 vT1 i1 = some q) : kMi l yX8_isDigit wsX8_isDigit ({ frames := 1, cells := 0, slots := 0, locals := 22 } : Room) D (kTy cI cC cS) [.ref aT.1, .int i1] (wTX cC aT vT0 vT1 vT2 vT3 vT4 vT5) sz q (wTX cC aT vT0 vT1 vT2 vT3 vT4 vT5) := by
  refine Met.ofW (cc := cX8_isDigit) (maxL := 2) (ret := (some .boolean)) (by decide) rfl ?_
  intro p e s m args below meth c s₁ B hml hv
  obtain ⟨rfl, hsz, hP, hK, hD0, hN⟩ := hv
  have hx := B.exec
  have hb := B.bytes
  have hr := B.returns
  have hts := atoms_spec (ws := wsX8_isDigit) B.pre
  have hown : s.vm.findClass RX8 = some m.cls := findClass_of_methodNamed B.named
  have hlocks := B.notSynchronized
  subst hsz
  have hD := hD0.self (sz := s.heap.size)
  generalize hAe : va_A (wTX cC aT vT0 vT1 vT2 vT3 vT4 vT5) s.heap.size = A at hD ⊢
  have hA : ∀ q : Nat, s.heap.size ≤ q → A q := fun q h => by rw [← hAe]; exact Or.inr h
  have hS : va_S A s.heap s.heap [] := va_S.rf
  have hl := lv_entry ([.ref aT.1, .int i1]) (n := 2) (Nat.le_of_ble_eq_true rfl)
  rw [lg_entry_eq]
  generalize (lg_sl ([.ref aT.1, .int i1]) ++ List.replicate (2 - (lg_sl ([.ref aT.1, .int i1])).length) Slot.unset).toArray = ls at hl ⊢
  have hl : lv_has ls 2 [(0, .ref aT.1), (1, .int i1)] := hl
  unfold pX8_isDigit at h
  refine lv_aload_n hx hb dX8_isDigit_0 rfl (lv_at hl 0 rfl) ?_
  refine lv_iload_n hx hb dX8_isDigit_1 rfl (lv_at hl 1 rfl) ?_
  obtain ⟨q2, h1, h⟩ := Option.bind_eq_some_iff.mp h
  refine kcir [0, 1] (va_runV (As := [.int i1]) (rest := []) ⟨hx, hb, hml, hown, hts⟩ (kX8_signAt l D cI cC cS aT vT0 vT1 vT2 vT3 vT4 vT5 i1 s.heap.size h1) (cwV 1 hts gX8_isDigit_X8_signAt rfl rfl rfl (by decide +kernel) ⟨Nat.le_of_ble_eq_true rfl, Nat.le_of_ble_eq_true rfl⟩) (kpreV hK hN hP hD [0, 1] rfl (by decide) 8 rfl rfl) rfl rfl hl.1 rfl (lv_room (Nat.le_of_ble_eq_true rfl)) dX8_isDigit_2 ⟨Nat.le_refl _, Nat.le_refl _⟩) hP hD hS hA rfl (fun H locs hP hS => ?_)
  refine lv_bipush (v := (48 : Int32)) hx hb dX8_isDigit_5 (by decide) ?_
  refine lv_bipush (v := (57 : Int32)) hx hb dX8_isDigit_7 (by decide) ?_
  obtain ⟨q4, h3, h⟩ := Option.bind_eq_some_iff.mp h
  refine kcir [] (va_runSN (As := [.int q2, .int (48 : Int32), .int (57 : Int32)]) (rest := []) ⟨hx, hb, hml, hown, hts⟩ (kX9_isWithin l D cI cC cS q2 (48 : Int32) (57 : Int32) H.size h3) ⟨va_cnB 3 hts gX8_isDigit_X9_isWithin_n19 rfl rfl rfl (hN.m 19 rfl) (hts (.initialized RX9) (by decide +kernel)) (by decide +kernel) ⟨Nat.le_of_ble_eq_true rfl, Nat.le_of_ble_eq_true rfl⟩, hts (.static yX9_isWithin) (by decide +kernel), trivial⟩ (kpre hK hN hP hD [] rfl (by decide)) rfl rfl hl.1 rfl (lv_room (Nat.le_of_ble_eq_true rfl)) dX8_isDigit_9 ⟨Nat.le_refl _, Nat.le_refl _⟩) hP hD hS hA rfl (fun H locs hP hS => ?_)
  obtain ⟨g, h⟩ := kif h
  obtain rfl := Option.some.inj h
  exact W.zret (v := q4) hx hb hr (kB.n g) (fun t ht hW => ⟨⟨_, (), rfl, rfl, by rw [ht]; exact hP, hD⟩, hS.F ht⟩) hS.2.2 dX8_isDigit_12
set_option maxHeartbeats 8000000 in
set_option maxRecDepth 100000 in
theorem kX8_takeDigit (l : Launch) (D : va_G) (cI cC cS : ClassId) (aT : Nat × Nat) (vT0 : (Nat → Int32)) (vT1 : Int32) (vT2 : Int32) (vT3 : Int32) (vT4 : Int32) (vT5 : Int32) (sz : Nat) {q : Int32 × Int32} (h : pX8_takeDigit vT0 vT1 vT2 vT4 = some q) : kMv l yX8_takeDigit wsX8_takeDigit ({ frames := 1, cells := 0, slots := 0, locals := 21 } : Room) D (kTy cI cC cS) [.ref aT.1] (wTX cC aT vT0 vT1 vT2 vT3 vT4 vT5) sz (wTX cC aT vT0 vT1 q.1 vT3 q.2 vT5) := by
  refine Met.ofW (cc := cX8_takeDigit) (maxL := 1) (ret := none) (by decide) rfl ?_
  intro p e s m args below meth c s₁ B hml hv
  obtain ⟨rfl, hsz, hP, hK, hD0, hN⟩ := hv
  have hx := B.exec
  have hb := B.bytes
  have hr := B.returns
  have hts := atoms_spec (ws := wsX8_takeDigit) B.pre
  have hown : s.vm.findClass RX8 = some m.cls := findClass_of_methodNamed B.named
  have hlocks := B.notSynchronized
  subst hsz
  have hD := hD0.self (sz := s.heap.size)
  generalize hAe : va_A (wTX cC aT vT0 vT1 vT2 vT3 vT4 vT5) s.heap.size = A at hD ⊢
  have hA : ∀ q : Nat, s.heap.size ≤ q → A q := fun q h => by rw [← hAe]; exact Or.inr h
  have hS : va_S A s.heap s.heap [] := va_S.rf
  have huX8 : ∀ w ∈ u_ws RX8 TX8 6, w ∈ wsX8_takeDigit := by decide +kernel
  have hl := lv_entry ([.ref aT.1]) (n := 1) (Nat.le_of_ble_eq_true rfl)
  rw [lg_entry_eq]
  generalize (lg_sl ([.ref aT.1]) ++ List.replicate (1 - (lg_sl ([.ref aT.1])).length) Slot.unset).toArray = ls at hl ⊢
  have hl : lv_has ls 1 [(0, .ref aT.1)] := hl
  unfold pX8_takeDigit at h
  refine lv_aload_n hx hb dX8_takeDigit_0 rfl (lv_at hl 0 rfl) ?_
  refine lv_bipush (v := (10 : Int32)) hx hb dX8_takeDigit_1 (by decide) ?_
  refine lv_aload_n hx hb dX8_takeDigit_3 rfl (lv_at hl 0 rfl) ?_
  refine va_get (D := D) (ci := 8) (v := .int vT4) (C := RX8) (T := TX8) (N := 6) hx hb hts huX8 hown hK hP 0 rfl rfl 4 (by decide) (hts (.fieldLink RX8 29 "VerseColumns$Text" "number" "I") (by decide +kernel)) (fun _ h9 => h9) rfl dX8_takeDigit_4 ?_
  refine lv_imul hx hb dX8_takeDigit_7 ?_
  refine lv_aload_n hx hb dX8_takeDigit_8 rfl (lv_at hl 0 rfl) ?_
  refine lv_aload_n hx hb dX8_takeDigit_9 rfl (lv_at hl 0 rfl) ?_
  refine va_get (D := D) (ci := 8) (v := .int vT2) (C := RX8) (T := TX8) (N := 6) hx hb hts huX8 hown hK hP 0 rfl rfl 2 (by decide) (hts (.fieldLink RX8 23 "VerseColumns$Text" "place" "I") (by decide +kernel)) (fun _ h9 => h9) rfl dX8_takeDigit_10 ?_
  obtain ⟨q2, h1, h⟩ := Option.bind_eq_some_iff.mp h
  refine kcir [0, 1] (va_runV (As := [.int vT2]) (rest := [.int ((10 : Int32) * vT4), .ref aT.1]) ⟨hx, hb, hml, hown, hts⟩ (kX8_signAt l D cI cC cS aT vT0 vT1 vT2 vT3 vT4 vT5 vT2 s.heap.size h1) (cwV 1 hts gX8_takeDigit_X8_signAt rfl rfl rfl (by decide +kernel) ⟨Nat.le_of_ble_eq_true rfl, Nat.le_of_ble_eq_true rfl⟩) (kpreV hK hN hP hD [0, 1] rfl (by decide) 8 rfl rfl) rfl rfl hl.1 rfl (lv_room (Nat.le_of_ble_eq_true rfl)) dX8_takeDigit_13 ⟨Nat.le_refl _, Nat.le_refl _⟩) hP hD hS hA rfl (fun H locs hP hS => ?_)
  refine lv_iadd hx hb dX8_takeDigit_16 ?_
  refine lv_bipush (v := (48 : Int32)) hx hb dX8_takeDigit_17 (by decide) ?_
  refine lv_isub hx hb dX8_takeDigit_19 ?_
  refine va_put (D := D) (ci := 8) (v := .int ((((10 : Int32) * vT4) + q2) - (48 : Int32))) (ty := .int) (C := RX8) (T := TX8) (N := 6) hx hb hts huX8 tyX8 tyX8_ok nmX8 hown hK hP hD hS 0 rfl rfl 4 (by decide) (hts (.fieldLink RX8 29 "VerseColumns$Text" "number" "I") (by decide +kernel)) (fun _ h9 => h9) rfl (by decide +kernel) rfl rfl (Nat.le_of_ble_eq_true rfl) dX8_takeDigit_20 (fun H locs hP hD hS => ?_)
  have hP : va_P D vwCl (wTX cC aT vT0 vT1 vT2 vT3 ((((10 : Int32) * vT4) + q2) - (48 : Int32)) vT5) H := hP
  have hD : va_D A (wTX cC aT vT0 vT1 vT2 vT3 ((((10 : Int32) * vT4) + q2) - (48 : Int32)) vT5) := hD
  refine lv_aload_n hx hb dX8_takeDigit_23 rfl (lv_at hl 0 rfl) ?_
  refine lv_dup hx hb dX8_takeDigit_24 rfl ?_
  refine va_get (D := D) (ci := 8) (v := .int vT2) (C := RX8) (T := TX8) (N := 6) hx hb hts huX8 hown hK hP 0 rfl rfl 2 (by decide) (hts (.fieldLink RX8 23 "VerseColumns$Text" "place" "I") (by decide +kernel)) (fun _ h9 => h9) rfl dX8_takeDigit_25 ?_
  refine lv_iconst (v := (1 : Int32)) hx hb dX8_takeDigit_28 (by decide) ?_
  refine lv_iadd hx hb dX8_takeDigit_29 ?_
  refine va_put (D := D) (ci := 8) (v := .int (vT2 + (1 : Int32))) (ty := .int) (C := RX8) (T := TX8) (N := 6) hx hb hts huX8 tyX8 tyX8_ok nmX8 hown hK hP hD hS 0 rfl rfl 2 (by decide) (hts (.fieldLink RX8 23 "VerseColumns$Text" "place" "I") (by decide +kernel)) (fun _ h9 => h9) rfl (by decide +kernel) rfl rfl (Nat.le_of_ble_eq_true rfl) dX8_takeDigit_30 (fun H locs hP hD hS => ?_)
  have hP : va_P D vwCl (wTX cC aT vT0 vT1 (vT2 + (1 : Int32)) vT3 ((((10 : Int32) * vT4) + q2) - (48 : Int32)) vT5) H := hP
  have hD : va_D A (wTX cC aT vT0 vT1 (vT2 + (1 : Int32)) vT3 ((((10 : Int32) * vT4) + q2) - (48 : Int32)) vT5) := hD
  obtain rfl := Option.some.inj h
  exact W.vret hx hb hr (fun t ht hW => ⟨⟨(), rfl, trivial, by rw [ht]; exact hP, hD⟩, hS.F ht⟩) hS.2.2 dX8_takeDigit_33
set_option maxHeartbeats 8000000 in
set_option maxRecDepth 100000 in
theorem kX8_readNumber (l : Launch) (D : va_G) (cI cC cS : ClassId) (aT : Nat × Nat) (vT0 : (Nat → Int32)) (vT1 : Int32) (vT2 : Int32) (vT3 : Int32) (vT4 : Int32) (vT5 : Int32) (sz : Nat) {q : Int32 × Int32 × Int32 × Int32} (h : pX8_readNumber vT0 vT1 vT2 vT3 = some q) : kMv l yX8_readNumber wsX8_readNumber ({ frames := 3, cells := 0, slots := 0, locals := 61 } : Room) D (kTy cI cC cS) [.ref aT.1] (wTX cC aT vT0 vT1 vT2 vT3 vT4 vT5) sz (wTX cC aT vT0 vT1 q.1 q.2.1 q.2.2.1 q.2.2.2) := by
  refine Met.ofW (cc := cX8_readNumber) (maxL := 1) (ret := none) (by decide) rfl ?_
  intro p e s m args below meth c s₁ B hml hv
  obtain ⟨rfl, hsz, hP, hK, hD0, hN⟩ := hv
  have hx := B.exec
  have hb := B.bytes
  have hr := B.returns
  have hts := atoms_spec (ws := wsX8_readNumber) B.pre
  have hown : s.vm.findClass RX8 = some m.cls := findClass_of_methodNamed B.named
  have hlocks := B.notSynchronized
  subst hsz
  have hD := hD0.self (sz := s.heap.size)
  generalize hAe : va_A (wTX cC aT vT0 vT1 vT2 vT3 vT4 vT5) s.heap.size = A at hD ⊢
  have hA : ∀ q : Nat, s.heap.size ≤ q → A q := fun q h => by rw [← hAe]; exact Or.inr h
  have hS : va_S A s.heap s.heap [] := va_S.rf
  have huX8 : ∀ w ∈ u_ws RX8 TX8 6, w ∈ wsX8_readNumber := by decide +kernel
  have hl := lv_entry ([.ref aT.1]) (n := 1) (Nat.le_of_ble_eq_true rfl)
  rw [lg_entry_eq]
  generalize (lg_sl ([.ref aT.1]) ++ List.replicate (1 - (lg_sl ([.ref aT.1])).length) Slot.unset).toArray = ls at hl ⊢
  have hl : lv_has ls 1 [(0, .ref aT.1)] := hl
  have j61 : ∀ (c0_2 : Int32) (c0_3 : Int32) (c0_4 : Int32) (c0_5 : Int32) (H : Heap) (locs : List Loc) (ls : Array Slot), pX8_readNumber_j61 vT0 vT1 c0_2 c0_3 c0_4 c0_5 = some q → va_P D vwCl (wTX cC aT vT0 vT1 c0_2 c0_3 c0_4 c0_5) H → va_D A (wTX cC aT vT0 vT1 c0_2 c0_3 c0_4 c0_5) → va_S A s.heap H locs → lv_has ls 1 [(0, .ref aT.1)] → W p l e ({ frames := 3, cells := 0, slots := 0, locals := 61 } : Room) s m ([.ref aT.1] : List Value).toArray below meth c H locs 0 0 (MQ below (va_Qv (fun (_ : Unit) => True) (fun _ => kPost D (wTX cC aT vT0 vT1 q.1 q.2.1 q.2.2.1 q.2.2.2) A) A) ([.ref aT.1] : List Value).toArray s 0 0 A) (F0 m 61 ls []) := by
    clear h hP hD hS hl
    intro c0_2 c0_3 c0_4 c0_5 H locs ls h hP hD hS hl
    unfold pX8_readNumber_j61 at h
    refine lv_aload_n hx hb dX8_readNumber_61 rfl (lv_at hl 0 rfl) ?_
    refine lv_aload_n hx hb dX8_readNumber_62 rfl (lv_at hl 0 rfl) ?_
    refine va_get (D := D) (ci := 8) (v := .int c0_2) (C := RX8) (T := TX8) (N := 6) hx hb hts huX8 hown hK hP 0 rfl rfl 2 (by decide) (hts (.fieldLink RX8 23 "VerseColumns$Text" "place" "I") (by decide +kernel)) (fun _ h9 => h9) rfl dX8_readNumber_63 ?_
    obtain ⟨q12, h11, h⟩ := Option.bind_eq_some_iff.mp h
    refine kcir [0, 1] (va_runV (As := [.int c0_2]) (rest := []) ⟨hx, hb, hml, hown, hts⟩ (kX8_isDigit l D cI cC cS aT vT0 vT1 c0_2 c0_3 c0_4 c0_5 c0_2 H.size h11) (cwV 1 hts gX8_readNumber_X8_isDigit rfl rfl rfl (by decide +kernel) ⟨Nat.le_of_ble_eq_true rfl, Nat.le_of_ble_eq_true rfl⟩) (kpreV hK hN hP hD [0, 1] rfl (by decide) 8 rfl rfl) rfl rfl hl.1 rfl (lv_room (Nat.le_of_ble_eq_true rfl)) dX8_readNumber_66 ⟨Nat.le_refl _, Nat.le_refl _⟩) hP hD hS hA rfl (fun H locs hP hS => ?_)
    refine lv_if_eq (tgt := 80) hx hb dX8_readNumber_69 (by decide) (fun g => ?_) (fun g => ?_)
    · rw [if_pos g] at h
      obtain rfl := Option.some.inj h
      exact W.vret hx hb hr (fun t ht hW => ⟨⟨(), rfl, trivial, by rw [ht]; exact hP, hD⟩, hS.F ht⟩) hS.2.2 dX8_readNumber_80
    · rw [if_neg g] at h
      refine lv_aload_n hx hb dX8_readNumber_72 rfl (lv_at hl 0 rfl) ?_
      refine lv_aload_n hx hb dX8_readNumber_73 rfl (lv_at hl 0 rfl) ?_
      refine va_get (D := D) (ci := 8) (v := .int c0_2) (C := RX8) (T := TX8) (N := 6) hx hb hts huX8 hown hK hP 0 rfl rfl 2 (by decide) (hts (.fieldLink RX8 23 "VerseColumns$Text" "place" "I") (by decide +kernel)) (fun _ h9 => h9) rfl dX8_readNumber_74 ?_
      obtain ⟨q14, h13, h⟩ := Option.bind_eq_some_iff.mp h
      refine kcvw (ws' := (wTX cC aT vT0 vT1 c0_2 q14 c0_4 c0_5)) [0, 1] (va_runV (As := [.int c0_2]) (rest := []) ⟨hx, hb, hml, hown, hts⟩ (kX8_failAt l D cI cC cS aT vT0 vT1 c0_2 c0_3 c0_4 c0_5 c0_2 H.size h13) (cwV 1 hts gX8_readNumber_X8_failAt rfl rfl rfl (by decide +kernel) ⟨Nat.le_of_ble_eq_true rfl, Nat.le_of_ble_eq_true rfl⟩) (kpreV hK hN hP hD [0, 1] rfl (by decide) 8 rfl rfl) rfl rfl hl.1 rfl (lv_room (Nat.le_of_ble_eq_true rfl)) dX8_readNumber_77 ⟨Nat.le_refl _, Nat.le_refl _⟩) hP hD hS hA rfl (by decide) rfl [1, 2] (by decide +kernel) rfl (fun H locs hP hD hS => ?_)
      obtain rfl := Option.some.inj h
      exact W.vret hx hb hr (fun t ht hW => ⟨⟨(), rfl, trivial, by rw [ht]; exact hP, hD⟩, hS.F ht⟩) hS.2.2 dX8_readNumber_80
  unfold pX8_readNumber at h
  refine lv_aload_n hx hb dX8_readNumber_0 rfl (lv_at hl 0 rfl) ?_
  refine lv_aload_n hx hb dX8_readNumber_1 rfl (lv_at hl 0 rfl) ?_
  refine va_get (D := D) (ci := 8) (v := .int vT2) (C := RX8) (T := TX8) (N := 6) hx hb hts huX8 hown hK hP 0 rfl rfl 2 (by decide) (hts (.fieldLink RX8 23 "VerseColumns$Text" "place" "I") (by decide +kernel)) (fun _ h9 => h9) rfl dX8_readNumber_2 ?_
  refine va_put (D := D) (ci := 8) (v := .int vT2) (ty := .int) (C := RX8) (T := TX8) (N := 6) hx hb hts huX8 tyX8 tyX8_ok nmX8 hown hK hP hD hS 0 rfl rfl 5 (by decide) (hts (.fieldLink RX8 32 "VerseColumns$Text" "numberStart" "I") (by decide +kernel)) (fun _ h9 => h9) rfl (by decide +kernel) rfl rfl (Nat.le_of_ble_eq_true rfl) dX8_readNumber_5 (fun H locs hP hD hS => ?_)
  have hP : va_P D vwCl (wTX cC aT vT0 vT1 vT2 vT3 vT4 vT2) H := hP
  have hD : va_D A (wTX cC aT vT0 vT1 vT2 vT3 vT4 vT2) := hD
  refine lv_aload_n hx hb dX8_readNumber_8 rfl (lv_at hl 0 rfl) ?_
  refine lv_iconst (v := (0 : Int32)) hx hb dX8_readNumber_9 (by decide) ?_
  refine va_put (D := D) (ci := 8) (v := .int (0 : Int32)) (ty := .int) (C := RX8) (T := TX8) (N := 6) hx hb hts huX8 tyX8 tyX8_ok nmX8 hown hK hP hD hS 0 rfl rfl 4 (by decide) (hts (.fieldLink RX8 29 "VerseColumns$Text" "number" "I") (by decide +kernel)) (fun _ h9 => h9) rfl (by decide +kernel) rfl rfl (Nat.le_of_ble_eq_true rfl) dX8_readNumber_10 (fun H locs hP hD hS => ?_)
  have hP : va_P D vwCl (wTX cC aT vT0 vT1 vT2 vT3 (0 : Int32) vT2) H := hP
  have hD : va_D A (wTX cC aT vT0 vT1 vT2 vT3 (0 : Int32) vT2) := hD
  refine lv_aload_n hx hb dX8_readNumber_13 rfl (lv_at hl 0 rfl) ?_
  refine lv_aload_n hx hb dX8_readNumber_14 rfl (lv_at hl 0 rfl) ?_
  refine va_get (D := D) (ci := 8) (v := .int vT2) (C := RX8) (T := TX8) (N := 6) hx hb hts huX8 hown hK hP 0 rfl rfl 2 (by decide) (hts (.fieldLink RX8 23 "VerseColumns$Text" "place" "I") (by decide +kernel)) (fun _ h9 => h9) rfl dX8_readNumber_15 ?_
  obtain ⟨q2, h1, h⟩ := Option.bind_eq_some_iff.mp h
  refine kcir [0, 1] (va_runV (As := [.int vT2]) (rest := []) ⟨hx, hb, hml, hown, hts⟩ (kX8_isDigit l D cI cC cS aT vT0 vT1 vT2 vT3 (0 : Int32) vT2 vT2 H.size h1) (cwV 1 hts gX8_readNumber_X8_isDigit rfl rfl rfl (by decide +kernel) ⟨Nat.le_of_ble_eq_true rfl, Nat.le_of_ble_eq_true rfl⟩) (kpreV hK hN hP hD [0, 1] rfl (by decide) 8 rfl rfl) rfl rfl hl.1 rfl (lv_room (Nat.le_of_ble_eq_true rfl)) dX8_readNumber_18 ⟨Nat.le_refl _, Nat.le_refl _⟩) hP hD hS hA rfl (fun H locs hP hS => ?_)
  refine lv_if_eq (tgt := 33) hx hb dX8_readNumber_21 (by decide) (fun g => ?_) (fun g => ?_)
  · rw [if_pos g] at h
    refine lv_aload_n hx hb dX8_readNumber_33 rfl (lv_at hl 0 rfl) ?_
    refine lv_aload_n hx hb dX8_readNumber_34 rfl (lv_at hl 0 rfl) ?_
    refine va_get (D := D) (ci := 8) (v := .int vT2) (C := RX8) (T := TX8) (N := 6) hx hb hts huX8 hown hK hP 0 rfl rfl 2 (by decide) (hts (.fieldLink RX8 23 "VerseColumns$Text" "place" "I") (by decide +kernel)) (fun _ h9 => h9) rfl dX8_readNumber_35 ?_
    obtain ⟨q4, h3, h⟩ := Option.bind_eq_some_iff.mp h
    refine kcvw (ws' := (wTX cC aT vT0 vT1 vT2 q4 (0 : Int32) vT2)) [0, 1] (va_runV (As := [.int vT2]) (rest := []) ⟨hx, hb, hml, hown, hts⟩ (kX8_failAt l D cI cC cS aT vT0 vT1 vT2 vT3 (0 : Int32) vT2 vT2 H.size h3) (cwV 1 hts gX8_readNumber_X8_failAt rfl rfl rfl (by decide +kernel) ⟨Nat.le_of_ble_eq_true rfl, Nat.le_of_ble_eq_true rfl⟩) (kpreV hK hN hP hD [0, 1] rfl (by decide) 8 rfl rfl) rfl rfl hl.1 rfl (lv_room (Nat.le_of_ble_eq_true rfl)) dX8_readNumber_38 ⟨Nat.le_refl _, Nat.le_refl _⟩) hP hD hS hA rfl (by decide) rfl [1, 2] (by decide +kernel) rfl (fun H locs hP hD hS => ?_)
    obtain rfl := Option.some.inj h
    exact W.vret hx hb hr (fun t ht hW => ⟨⟨(), rfl, trivial, by rw [ht]; exact hP, hD⟩, hS.F ht⟩) hS.2.2 dX8_readNumber_41
  · rw [if_neg g] at h
    refine lv_aload_n hx hb dX8_readNumber_24 rfl (lv_at hl 0 rfl) ?_
    refine lv_bipush (v := (48 : Int32)) hx hb dX8_readNumber_25 (by decide) ?_
    obtain ⟨q6, h5, h⟩ := Option.bind_eq_some_iff.mp h
    refine kcir [0, 1] (va_runV (As := [.int (48 : Int32)]) (rest := []) ⟨hx, hb, hml, hown, hts⟩ (kX8_stands l D cI cC cS aT vT0 vT1 vT2 vT3 (0 : Int32) vT2 (48 : Int32) H.size h5) (cwV 1 hts gX8_readNumber_X8_stands rfl rfl rfl (by decide +kernel) ⟨Nat.le_of_ble_eq_true rfl, Nat.le_of_ble_eq_true rfl⟩) (kpreV hK hN hP hD [0, 1] rfl (by decide) 8 rfl rfl) rfl rfl hl.1 rfl (lv_room (Nat.le_of_ble_eq_true rfl)) dX8_readNumber_27 ⟨Nat.le_refl _, Nat.le_refl _⟩) hP hD hS hA rfl (fun H locs hP hS => ?_)
    refine lv_if_eq (tgt := 42) hx hb dX8_readNumber_30 (by decide) (fun g => ?_) (fun g => ?_)
    · rw [if_pos g] at h
      refine lv_aload_n hx hb dX8_readNumber_42 rfl (lv_at hl 0 rfl) ?_
      obtain ⟨q8, h7, h⟩ := Option.bind_eq_some_iff.mp h
      refine kcvw (ws' := (wTX cC aT vT0 vT1 q8.1 vT3 q8.2 vT2)) [0, 1] (va_runV (As := []) (rest := []) ⟨hx, hb, hml, hown, hts⟩ (kX8_takeDigit l D cI cC cS aT vT0 vT1 vT2 vT3 (0 : Int32) vT2 H.size h7) (cwV 0 hts gX8_readNumber_X8_takeDigit rfl rfl rfl (by decide +kernel) ⟨Nat.le_of_ble_eq_true rfl, Nat.le_of_ble_eq_true rfl⟩) (kpreV hK hN hP hD [0, 1] rfl (by decide) 8 rfl rfl) rfl rfl hl.1 rfl (lv_room (Nat.le_of_ble_eq_true rfl)) dX8_readNumber_43 ⟨Nat.le_refl _, Nat.le_refl _⟩) hP hD hS hA rfl (by decide) rfl [1, 2] (by decide +kernel) rfl (fun H locs hP hD hS => ?_)
      refine lv_aload_n hx hb dX8_readNumber_46 rfl (lv_at hl 0 rfl) ?_
      refine lv_aload_n hx hb dX8_readNumber_47 rfl (lv_at hl 0 rfl) ?_
      refine va_get (D := D) (ci := 8) (v := .int q8.1) (C := RX8) (T := TX8) (N := 6) hx hb hts huX8 hown hK hP 0 rfl rfl 2 (by decide) (hts (.fieldLink RX8 23 "VerseColumns$Text" "place" "I") (by decide +kernel)) (fun _ h9 => h9) rfl dX8_readNumber_48 ?_
      obtain ⟨q10, h9, h⟩ := Option.bind_eq_some_iff.mp h
      refine kcir [0, 1] (va_runV (As := [.int q8.1]) (rest := []) ⟨hx, hb, hml, hown, hts⟩ (kX8_isDigit l D cI cC cS aT vT0 vT1 q8.1 vT3 q8.2 vT2 q8.1 H.size h9) (cwV 1 hts gX8_readNumber_X8_isDigit rfl rfl rfl (by decide +kernel) ⟨Nat.le_of_ble_eq_true rfl, Nat.le_of_ble_eq_true rfl⟩) (kpreV hK hN hP hD [0, 1] rfl (by decide) 8 rfl rfl) rfl rfl hl.1 rfl (lv_room (Nat.le_of_ble_eq_true rfl)) dX8_readNumber_51 ⟨Nat.le_refl _, Nat.le_refl _⟩) hP hD hS hA rfl (fun H locs hP hS => ?_)
      refine lv_if_eq (tgt := 61) hx hb dX8_readNumber_54 (by decide) (fun g => ?_) (fun g => ?_)
      · rw [if_pos g] at h
        exact j61 q8.1 vT3 q8.2 vT2 _ _ _ h hP hD hS (lv_sub hl [0] rfl)
      · rw [if_neg g] at h
        refine lv_aload_n hx hb dX8_readNumber_57 rfl (lv_at hl 0 rfl) ?_
        obtain ⟨q16, h15, h⟩ := Option.bind_eq_some_iff.mp h
        refine kcvw (ws' := (wTX cC aT vT0 vT1 q16.1 vT3 q16.2 vT2)) [0, 1] (va_runV (As := []) (rest := []) ⟨hx, hb, hml, hown, hts⟩ (kX8_takeDigit l D cI cC cS aT vT0 vT1 q8.1 vT3 q8.2 vT2 H.size h15) (cwV 0 hts gX8_readNumber_X8_takeDigit rfl rfl rfl (by decide +kernel) ⟨Nat.le_of_ble_eq_true rfl, Nat.le_of_ble_eq_true rfl⟩) (kpreV hK hN hP hD [0, 1] rfl (by decide) 8 rfl rfl) rfl rfl hl.1 rfl (lv_room (Nat.le_of_ble_eq_true rfl)) dX8_readNumber_58 ⟨Nat.le_refl _, Nat.le_refl _⟩) hP hD hS hA rfl (by decide) rfl [1, 2] (by decide +kernel) rfl (fun H locs hP hD hS => ?_)
        exact j61 q16.1 vT3 q16.2 vT2 _ _ _ h hP hD hS (lv_sub hl [0] rfl)
    · rw [if_neg g] at h
      refine lv_aload_n hx hb dX8_readNumber_33 rfl (lv_at hl 0 rfl) ?_
      refine lv_aload_n hx hb dX8_readNumber_34 rfl (lv_at hl 0 rfl) ?_
      refine va_get (D := D) (ci := 8) (v := .int vT2) (C := RX8) (T := TX8) (N := 6) hx hb hts huX8 hown hK hP 0 rfl rfl 2 (by decide) (hts (.fieldLink RX8 23 "VerseColumns$Text" "place" "I") (by decide +kernel)) (fun _ h9 => h9) rfl dX8_readNumber_35 ?_
      obtain ⟨q18, h17, h⟩ := Option.bind_eq_some_iff.mp h
      refine kcvw (ws' := (wTX cC aT vT0 vT1 vT2 q18 (0 : Int32) vT2)) [0, 1] (va_runV (As := [.int vT2]) (rest := []) ⟨hx, hb, hml, hown, hts⟩ (kX8_failAt l D cI cC cS aT vT0 vT1 vT2 vT3 (0 : Int32) vT2 vT2 H.size h17) (cwV 1 hts gX8_readNumber_X8_failAt rfl rfl rfl (by decide +kernel) ⟨Nat.le_of_ble_eq_true rfl, Nat.le_of_ble_eq_true rfl⟩) (kpreV hK hN hP hD [0, 1] rfl (by decide) 8 rfl rfl) rfl rfl hl.1 rfl (lv_room (Nat.le_of_ble_eq_true rfl)) dX8_readNumber_38 ⟨Nat.le_refl _, Nat.le_refl _⟩) hP hD hS hA rfl (by decide) rfl [1, 2] (by decide +kernel) rfl (fun H locs hP hD hS => ?_)
      obtain rfl := Option.some.inj h
      exact W.vret hx hb hr (fun t ht hW => ⟨⟨(), rfl, trivial, by rw [ht]; exact hP, hD⟩, hS.F ht⟩) hS.2.2 dX8_readNumber_41
