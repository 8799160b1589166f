-- walks: rr (printed by wip/whole/gen)
set_option maxHeartbeats 8000000 in
set_option maxRecDepth 100000 in
theorem kX6_lookAtChapter (l : Launch) (D : va_G) (cI cC cS : ClassId) (aU : Nat) (vU0 : Int32) (vU1 : Int32) (aT : Nat × Nat) (vT0 : (Nat → Int32)) (vT1 : Int32) (vT2 : Int32) (vT3 : Int32) (vT4 : Int32) (vT5 : Int32) (aB : Nat × Nat × Nat × Nat) (vB0 : (Nat → Int32)) (vB1 : (Nat → Int32)) (vB2 : (Nat → Int32)) (vB3 : Int32) (i3 : Int32) (sz : Nat) {q : Int32 × Int32} (h : pX6_lookAtChapter vT3 vT4 vT5 vB0 vB3 i3 = some q) : kMi l yX6_lookAtChapter wsX6_lookAtChapter ({ frames := 3, cells := 0, slots := 0, locals := 62 } : Room) D (kTy cI cC cS) [.ref aU, .ref aT.1, .ref aB.1, .int i3] (wRR aU vU0 vU1 ++ (wTX cC aT vT0 vT1 vT2 vT3 vT4 vT5 ++ wBK cI aB vB0 vB1 vB2 vB3)) sz q.1 (wRR aU vU0 vU1 ++ (wTX cC aT vT0 vT1 vT2 q.2 vT4 vT5 ++ wBK cI aB vB0 vB1 vB2 vB3)) := by
  refine Met.ofW (cc := cX6_lookAtChapter) (maxL := 4) (ret := (some .int)) (by decide) rfl ?_
  intro p e s m args below meth c s₁ B hml hv
  obtain ⟨rfl, hsz, hP, hK, hD0, hN⟩ := hv
  have hx := B.exec
  have hb := B.bytes
  have hr := B.returns
  have hts := atoms_spec (ws := wsX6_lookAtChapter) B.pre
  have hown : s.vm.findClass RX6 = some m.cls := findClass_of_methodNamed B.named
  have hlocks := B.notSynchronized
  subst hsz
  have hD := hD0.self (sz := s.heap.size)
  generalize hAe : va_A (wRR aU vU0 vU1 ++ (wTX cC aT vT0 vT1 vT2 vT3 vT4 vT5 ++ wBK cI aB vB0 vB1 vB2 vB3)) s.heap.size = A at hD ⊢
  have hA : ∀ q : Nat, s.heap.size ≤ q → A q := fun q h => by rw [← hAe]; exact Or.inr h
  have hS : va_S A s.heap s.heap [] := va_S.rf
  have huX8 : ∀ w ∈ u_ws RX8 TX8 6, w ∈ wsX6_lookAtChapter := by decide +kernel
  have hl := lv_entry ([.ref aU, .ref aT.1, .ref aB.1, .int i3]) (n := 4) (Nat.le_of_ble_eq_true rfl)
  rw [lg_entry_eq]
  generalize (lg_sl ([.ref aU, .ref aT.1, .ref aB.1, .int i3]) ++ List.replicate (4 - (lg_sl ([.ref aU, .ref aT.1, .ref aB.1, .int i3])).length) Slot.unset).toArray = ls at hl ⊢
  have hl : lv_has ls 4 [(0, .ref aU), (1, .ref aT.1), (2, .ref aB.1), (3, .int i3)] := hl
  unfold pX6_lookAtChapter at h
  refine lv_aload_n hx hb dX6_lookAtChapter_0 rfl (lv_at hl 1 rfl) ?_
  refine va_getN (D := D) (ci := 8) (v := .int vT4) (C := RX8) (T := TX8) (N := 6) hx hb hts huX8 hown hK hP 1 rfl rfl 4 (by decide) (hN.f 20 rfl) (fun _ h9 => h9) rfl dX6_lookAtChapter_1 ?_
  refine lv_iload_n hx hb dX6_lookAtChapter_4 rfl (lv_at hl 3 rfl) ?_
  refine lv_aload_n hx hb dX6_lookAtChapter_5 rfl (lv_at hl 2 rfl) ?_
  obtain ⟨q2, h1, h⟩ := Option.bind_eq_some_iff.mp h
  refine kcir [3, 4, 5, 6] (va_runV (As := []) (rest := [.int i3, .int vT4]) ⟨hx, hb, hml, hown, hts⟩ (kX0_chapterTotal l D cI cC cS aB vB0 vB1 vB2 vB3 s.heap.size h1) (cwV 0 hts gX6_lookAtChapter_X0_chapterTotal rfl rfl rfl (by decide +kernel) ⟨Nat.le_of_ble_eq_true rfl, Nat.le_of_ble_eq_true rfl⟩) (kpreV hK hN hP hD [3, 4, 5, 6] rfl (by decide) 0 rfl rfl) rfl rfl hl.1 rfl (lv_room (Nat.le_of_ble_eq_true rfl)) dX6_lookAtChapter_6 ⟨Nat.le_refl _, Nat.le_refl _⟩) hP hD hS hA rfl (fun H locs hP hS => ?_)
  obtain ⟨q4, h3, h⟩ := Option.bind_eq_some_iff.mp h
  refine kcir [] (va_runSN (As := [.int vT4, .int i3, .int q2]) (rest := []) ⟨hx, hb, hml, hown, hts⟩ (kX9_isWithin l D cI cC cS vT4 i3 q2 H.size h3) ⟨va_cnB 3 hts gX6_lookAtChapter_X9_isWithin_n67 rfl rfl rfl (hN.m 20 rfl) (hts (.initialized RX9) (by decide +kernel)) (by decide +kernel) ⟨Nat.le_of_ble_eq_true rfl, Nat.le_of_ble_eq_true rfl⟩, hts (.static yX9_isWithin) (by decide +kernel), trivial⟩ (kpre hK hN hP hD [] rfl (by decide)) rfl rfl hl.1 rfl (lv_room (Nat.le_of_ble_eq_true rfl)) dX6_lookAtChapter_9 ⟨Nat.le_refl _, Nat.le_refl _⟩) hP hD hS hA rfl (fun H locs hP hS => ?_)
  refine lv_if_ne (tgt := 19) hx hb dX6_lookAtChapter_12 (by decide) (fun g => ?_) (fun g => ?_)
  · rw [if_neg g] at h
    refine lv_aload_n hx hb dX6_lookAtChapter_19 rfl (lv_at hl 1 rfl) ?_
    refine va_getN (D := D) (ci := 8) (v := .int vT4) (C := RX8) (T := TX8) (N := 6) hx hb hts huX8 hown hK hP 1 rfl rfl 4 (by decide) (hN.f 20 rfl) (fun _ h9 => h9) rfl dX6_lookAtChapter_20 ?_
    obtain rfl := Option.some.inj h
    exact W.iret (v := vT4) hx hb hr (fun t ht hW => ⟨⟨_, (), rfl, rfl, by rw [ht]; exact hP, hD⟩, hS.F ht⟩) hS.2.2 dX6_lookAtChapter_23
  · rw [if_pos g] at h
    refine lv_aload_n hx hb dX6_lookAtChapter_15 rfl (lv_at hl 1 rfl) ?_
    obtain ⟨q6, h5, h⟩ := Option.bind_eq_some_iff.mp h
    refine kcvw (ws' := (wRR aU vU0 vU1 ++ (wTX cC aT vT0 vT1 vT2 q6 vT4 vT5 ++ wBK cI aB vB0 vB1 vB2 vB3))) [1, 2] (va_runV (As := []) (rest := []) ⟨hx, hb, hml, hown, hts⟩ (kX8_failAtNumber l D cI cC cS aT vT0 vT1 vT2 vT3 vT4 vT5 H.size h5) (cwV 0 hts gX6_lookAtChapter_X8_failAtNumber rfl rfl rfl (by decide +kernel) ⟨Nat.le_of_ble_eq_true rfl, Nat.le_of_ble_eq_true rfl⟩) (kpreV hK hN hP hD [1, 2] rfl (by decide) 8 rfl rfl) rfl rfl hl.1 rfl (lv_room (Nat.le_of_ble_eq_true rfl)) dX6_lookAtChapter_16 ⟨Nat.le_refl _, Nat.le_refl _⟩) hP hD hS hA rfl (by decide) rfl [0, 1, 2, 0, 0, 0, 0] (by decide +kernel) rfl (fun H locs hP hD hS => ?_)
    refine lv_aload_n hx hb dX6_lookAtChapter_19 rfl (lv_at hl 1 rfl) ?_
    refine va_getN (D := D) (ci := 8) (v := .int vT4) (C := RX8) (T := TX8) (N := 6) hx hb hts huX8 hown hK hP 1 rfl rfl 4 (by decide) (hN.f 20 rfl) (fun _ h9 => h9) rfl dX6_lookAtChapter_20 ?_
    obtain rfl := Option.some.inj h
    exact W.iret (v := vT4) hx hb hr (fun t ht hW => ⟨⟨_, (), rfl, rfl, by rw [ht]; exact hP, hD⟩, hS.F ht⟩) hS.2.2 dX6_lookAtChapter_23
set_option maxHeartbeats 8000000 in
set_option maxRecDepth 100000 in
theorem kX6_lookAtVerse (l : Launch) (D : va_G) (cI cC cS : ClassId) (aU : Nat) (vU0 : Int32) (vU1 : Int32) (aT : Nat × Nat) (vT0 : (Nat → Int32)) (vT1 : Int32) (vT2 : Int32) (vT3 : Int32) (vT4 : Int32) (vT5 : Int32) (aB : Nat × Nat × Nat × Nat) (vB0 : (Nat → Int32)) (vB1 : (Nat → Int32)) (vB2 : (Nat → Int32)) (vB3 : Int32) (i3 : Int32) (i4 : Int32) (sz : Nat) {q : Int32 × Int32} (h : pX6_lookAtVerse vT3 vT4 vT5 vB0 vB3 i3 i4 = some q) : kMi l yX6_lookAtVerse wsX6_lookAtVerse ({ frames := 3, cells := 0, slots := 0, locals := 66 } : Room) D (kTy cI cC cS) [.ref aU, .ref aT.1, .ref aB.1, .int i3, .int i4] (wRR aU vU0 vU1 ++ (wTX cC aT vT0 vT1 vT2 vT3 vT4 vT5 ++ wBK cI aB vB0 vB1 vB2 vB3)) sz q.1 (wRR aU vU0 vU1 ++ (wTX cC aT vT0 vT1 vT2 q.2 vT4 vT5 ++ wBK cI aB vB0 vB1 vB2 vB3)) := by
  refine Met.ofW (cc := cX6_lookAtVerse) (maxL := 6) (ret := (some .int)) (by decide) rfl ?_
  intro p e s m args below meth c s₁ B hml hv
  obtain ⟨rfl, hsz, hP, hK, hD0, hN⟩ := hv
  have hx := B.exec
  have hb := B.bytes
  have hr := B.returns
  have hts := atoms_spec (ws := wsX6_lookAtVerse) B.pre
  have hown : s.vm.findClass RX6 = some m.cls := findClass_of_methodNamed B.named
  have hlocks := B.notSynchronized
  subst hsz
  have hD := hD0.self (sz := s.heap.size)
  generalize hAe : va_A (wRR aU vU0 vU1 ++ (wTX cC aT vT0 vT1 vT2 vT3 vT4 vT5 ++ wBK cI aB vB0 vB1 vB2 vB3)) s.heap.size = A at hD ⊢
  have hA : ∀ q : Nat, s.heap.size ≤ q → A q := fun q h => by rw [← hAe]; exact Or.inr h
  have hS : va_S A s.heap s.heap [] := va_S.rf
  have huX8 : ∀ w ∈ u_ws RX8 TX8 6, w ∈ wsX6_lookAtVerse := by decide +kernel
  have hl := lv_entry ([.ref aU, .ref aT.1, .ref aB.1, .int i3, .int i4]) (n := 6) (Nat.le_of_ble_eq_true rfl)
  rw [lg_entry_eq]
  generalize (lg_sl ([.ref aU, .ref aT.1, .ref aB.1, .int i3, .int i4]) ++ List.replicate (6 - (lg_sl ([.ref aU, .ref aT.1, .ref aB.1, .int i3, .int i4])).length) Slot.unset).toArray = ls at hl ⊢
  have hl : lv_has ls 6 [(0, .ref aU), (1, .ref aT.1), (2, .ref aB.1), (3, .int i3), (4, .int i4)] := hl
  unfold pX6_lookAtVerse at h
  refine lv_aload_n hx hb dX6_lookAtVerse_0 rfl (lv_at hl 2 rfl) ?_
  refine lv_iload_n hx hb dX6_lookAtVerse_1 rfl (lv_at hl 3 rfl) ?_
  refine lv_aload_n hx hb dX6_lookAtVerse_2 rfl (lv_at hl 1 rfl) ?_
  refine va_getN (D := D) (ci := 8) (v := .int vT4) (C := RX8) (T := TX8) (N := 6) hx hb hts huX8 hown hK hP 1 rfl rfl 4 (by decide) (hN.f 20 rfl) (fun _ h9 => h9) rfl dX6_lookAtVerse_3 ?_
  obtain ⟨q2, h1, h⟩ := Option.bind_eq_some_iff.mp h
  refine kcir [3, 4, 5, 6] (va_runV (As := [.int i3, .int vT4]) (rest := []) ⟨hx, hb, hml, hown, hts⟩ (kX0_find l D cI cC cS aB vB0 vB1 vB2 vB3 i3 vT4 s.heap.size h1) (cwV 2 hts gX6_lookAtVerse_X0_find rfl rfl rfl (by decide +kernel) ⟨Nat.le_of_ble_eq_true rfl, Nat.le_of_ble_eq_true rfl⟩) (kpreV hK hN hP hD [3, 4, 5, 6] rfl (by decide) 0 rfl rfl) rfl rfl hl.1 rfl (lv_room (Nat.le_of_ble_eq_true rfl)) dX6_lookAtVerse_6 ⟨Nat.le_refl _, Nat.le_refl _⟩) hP hD hS hA rfl (fun H locs hP hS => ?_)
  refine lv_istore (lv' := [(5, .int q2), (0, .ref aU), (1, .ref aT.1), (2, .ref aB.1), (3, .int i3), (4, .int i4)]) hx hb dX6_lookAtVerse_9 hl (by decide) rfl (fun ls hl => ?_)
  refine lv_iload hx hb dX6_lookAtVerse_11 (lv_at hl 0 rfl) ?_
  refine lv_iload hx hb dX6_lookAtVerse_13 (lv_at hl 5 rfl) ?_
  refine lv_icmp_ge (tgt := 22) hx hb dX6_lookAtVerse_15 (by decide) (fun g => ?_) (fun g => ?_)
  · rw [if_pos g] at h
    refine lv_iload hx hb dX6_lookAtVerse_22 (lv_at hl 0 rfl) ?_
    obtain rfl := Option.some.inj h
    exact W.iret (v := q2) hx hb hr (fun t ht hW => ⟨⟨_, (), rfl, rfl, by rw [ht]; exact hP, hD⟩, hS.F ht⟩) hS.2.2 dX6_lookAtVerse_24
  · rw [if_neg g] at h
    refine lv_aload_n hx hb dX6_lookAtVerse_18 rfl (lv_at hl 2 rfl) ?_
    obtain ⟨q4, h3, h⟩ := Option.bind_eq_some_iff.mp h
    refine kcvw (ws' := (wRR aU vU0 vU1 ++ (wTX cC aT vT0 vT1 vT2 q4 vT4 vT5 ++ wBK cI aB vB0 vB1 vB2 vB3))) [1, 2] (va_runV (As := []) (rest := []) ⟨hx, hb, hml, hown, hts⟩ (kX8_failAtNumber l D cI cC cS aT vT0 vT1 vT2 vT3 vT4 vT5 H.size h3) (cwV 0 hts gX6_lookAtVerse_X8_failAtNumber rfl rfl rfl (by decide +kernel) ⟨Nat.le_of_ble_eq_true rfl, Nat.le_of_ble_eq_true rfl⟩) (kpreV hK hN hP hD [1, 2] rfl (by decide) 8 rfl rfl) rfl rfl hl.1 rfl (lv_room (Nat.le_of_ble_eq_true rfl)) dX6_lookAtVerse_19 ⟨Nat.le_refl _, Nat.le_refl _⟩) hP hD hS hA rfl (by decide) rfl [0, 1, 2, 0, 0, 0, 0] (by decide +kernel) rfl (fun H locs hP hD hS => ?_)
    refine lv_iload hx hb dX6_lookAtVerse_22 (lv_at hl 0 rfl) ?_
    obtain rfl := Option.some.inj h
    exact W.iret (v := q2) hx hb hr (fun t ht hW => ⟨⟨_, (), rfl, rfl, by rw [ht]; exact hP, hD⟩, hS.F ht⟩) hS.2.2 dX6_lookAtVerse_24
set_option maxHeartbeats 8000000 in
set_option maxRecDepth 100000 in
theorem kX6_readLast (l : Launch) (D : va_G) (cI cC cS : ClassId) (aU : Nat) (vU0 : Int32) (vU1 : Int32) (aT : Nat × Nat) (vT0 : (Nat → Int32)) (vT1 : Int32) (vT2 : Int32) (vT3 : Int32) (vT4 : Int32) (vT5 : Int32) (aB : Nat × Nat × Nat × Nat) (vB0 : (Nat → Int32)) (vB1 : (Nat → Int32)) (vB2 : (Nat → Int32)) (vB3 : Int32) (i3 : Int32) (sz : Nat) {q : Int32 × Int32 × Int32 × Int32 × Int32} (h : pX6_readLast vU0 vU1 vT0 vT1 vT2 vT3 vB0 vB3 i3 = some q) : kMv l yX6_readLast wsX6_readLast ({ frames := 4, cells := 0, slots := 0, locals := 91 } : Room) D (kTy cI cC cS) [.ref aU, .ref aT.1, .ref aB.1, .int i3] (wRR aU vU0 vU1 ++ (wTX cC aT vT0 vT1 vT2 vT3 vT4 vT5 ++ wBK cI aB vB0 vB1 vB2 vB3)) sz (wRR aU vU0 q.1 ++ (wTX cC aT vT0 vT1 q.2.1 q.2.2.1 q.2.2.2.1 q.2.2.2.2 ++ wBK cI aB vB0 vB1 vB2 vB3)) := by
  refine Met.ofW (cc := cX6_readLast) (maxL := 5) (ret := none) (by decide) rfl ?_
  intro p e s m args below meth c s₁ B hml hv
  obtain ⟨rfl, hsz, hP, hK, hD0, hN⟩ := hv
  have hx := B.exec
  have hb := B.bytes
  have hr := B.returns
  have hts := atoms_spec (ws := wsX6_readLast) B.pre
  have hown : s.vm.findClass RX6 = some m.cls := findClass_of_methodNamed B.named
  have hlocks := B.notSynchronized
  subst hsz
  have hD := hD0.self (sz := s.heap.size)
  generalize hAe : va_A (wRR aU vU0 vU1 ++ (wTX cC aT vT0 vT1 vT2 vT3 vT4 vT5 ++ wBK cI aB vB0 vB1 vB2 vB3)) s.heap.size = A at hD ⊢
  have hA : ∀ q : Nat, s.heap.size ≤ q → A q := fun q h => by rw [← hAe]; exact Or.inr h
  have hS : va_S A s.heap s.heap [] := va_S.rf
  have huX6 : ∀ w ∈ u_ws RX6 TX6 2, w ∈ wsX6_readLast := by decide +kernel
  have hl := lv_entry ([.ref aU, .ref aT.1, .ref aB.1, .int i3]) (n := 5) (Nat.le_of_ble_eq_true rfl)
  rw [lg_entry_eq]
  generalize (lg_sl ([.ref aU, .ref aT.1, .ref aB.1, .int i3]) ++ List.replicate (5 - (lg_sl ([.ref aU, .ref aT.1, .ref aB.1, .int i3])).length) Slot.unset).toArray = ls at hl ⊢
  have hl : lv_has ls 5 [(0, .ref aU), (1, .ref aT.1), (2, .ref aB.1), (3, .int i3)] := hl
  have j35 : ∀ (c0_1 : Int32) (c1_2 : Int32) (c1_3 : Int32) (c1_4 : Int32) (c1_5 : Int32) (y4 : Int32) (H : Heap) (locs : List Loc) (ls : Array Slot), pX6_readLast_j35 vU0 vT0 vT1 vB0 vB3 c0_1 c1_2 c1_3 c1_4 c1_5 y4 = some q → va_P D vwCl (wRR aU vU0 c0_1 ++ (wTX cC aT vT0 vT1 c1_2 c1_3 c1_4 c1_5 ++ wBK cI aB vB0 vB1 vB2 vB3)) H → va_D A (wRR aU vU0 c0_1 ++ (wTX cC aT vT0 vT1 c1_2 c1_3 c1_4 c1_5 ++ wBK cI aB vB0 vB1 vB2 vB3)) → va_S A s.heap H locs → lv_has ls 5 [(0, .ref aU), (1, .ref aT.1), (2, .ref aB.1), (4, .int y4)] → W p l e ({ frames := 4, cells := 0, slots := 0, locals := 91 } : Room) s m ([.ref aU, .ref aT.1, .ref aB.1, .int i3] : List Value).toArray below meth c H locs 0 0 (MQ below (va_Qv (fun (_ : Unit) => True) (fun _ => kPost D (wRR aU vU0 q.1 ++ (wTX cC aT vT0 vT1 q.2.1 q.2.2.1 q.2.2.2.1 q.2.2.2.2 ++ wBK cI aB vB0 vB1 vB2 vB3)) A) A) ([.ref aU, .ref aT.1, .ref aB.1, .int i3] : List Value).toArray s 0 0 A) (F0 m 35 ls []) := by
    clear h hP hD hS hl
    intro c0_1 c1_2 c1_3 c1_4 c1_5 y4 H locs ls h hP hD hS hl
    unfold pX6_readLast_j35 at h
    refine lv_aload_n hx hb dX6_readLast_35 rfl (lv_at hl 0 rfl) ?_
    refine lv_aload_n hx hb dX6_readLast_36 rfl (lv_at hl 0 rfl) ?_
    refine lv_aload_n hx hb dX6_readLast_37 rfl (lv_at hl 1 rfl) ?_
    refine lv_aload_n hx hb dX6_readLast_38 rfl (lv_at hl 2 rfl) ?_
    refine lv_iload hx hb dX6_readLast_39 (lv_at hl 3 rfl) ?_
    refine lv_aload_n hx hb dX6_readLast_41 rfl (lv_at hl 0 rfl) ?_
    refine va_get (D := D) (ci := 6) (v := .int vU0) (C := RX6) (T := TX6) (N := 2) hx hb hts huX6 hown hK hP 0 rfl rfl 0 (by decide) (hts (.fieldLink RX6 29 "VerseColumns$ReferenceReader" "first" "I") (by decide +kernel)) (fun _ h9 => h9) rfl dX6_readLast_42 ?_
    obtain ⟨q6, h5, h⟩ := Option.bind_eq_some_iff.mp h
    refine kciw (ws' := (wRR aU vU0 c0_1 ++ (wTX cC aT vT0 vT1 c1_2 q6.2 c1_4 c1_5 ++ wBK cI aB vB0 vB1 vB2 vB3))) [0, 1, 2, 3, 4, 5, 6] (va_runV (As := [.ref aT.1, .ref aB.1, .int y4, .int vU0]) (rest := [.ref aU]) ⟨hx, hb, hml, hown, hts⟩ (kX6_lookAtVerse l D cI cC cS aU vU0 c0_1 aT vT0 vT1 c1_2 c1_3 c1_4 c1_5 aB vB0 vB1 vB2 vB3 y4 vU0 H.size h5) (cwV 4 hts gX6_readLast_X6_lookAtVerse rfl rfl rfl (by decide +kernel) ⟨Nat.le_of_ble_eq_true rfl, Nat.le_of_ble_eq_true rfl⟩) (kpreV hK hN hP hD [0, 1, 2, 3, 4, 5, 6] rfl (by decide) 6 rfl rfl) rfl rfl hl.1 rfl (lv_room (Nat.le_of_ble_eq_true rfl)) dX6_readLast_45 ⟨Nat.le_refl _, Nat.le_refl _⟩) hP hD hS hA rfl (by decide) rfl [1, 2, 3, 4, 5, 6, 7] (by decide +kernel) rfl (fun H locs hP hD hS => ?_)
    refine va_put (D := D) (ci := 6) (v := .int q6.1) (ty := .int) (C := RX6) (T := TX6) (N := 2) hx hb hts huX6 tyX6 tyX6_ok nmX6 hown hK hP hD hS 0 rfl rfl 1 (by decide) (hts (.fieldLink RX6 33 "VerseColumns$ReferenceReader" "last" "I") (by decide +kernel)) (fun _ h9 => h9) rfl (by decide +kernel) rfl rfl (Nat.le_of_ble_eq_true rfl) dX6_readLast_48 (fun H locs hP hD hS => ?_)
    have hP : va_P D vwCl (wRR aU vU0 q6.1 ++ (wTX cC aT vT0 vT1 c1_2 q6.2 c1_4 c1_5 ++ wBK cI aB vB0 vB1 vB2 vB3)) H := hP
    have hD : va_D A (wRR aU vU0 q6.1 ++ (wTX cC aT vT0 vT1 c1_2 q6.2 c1_4 c1_5 ++ wBK cI aB vB0 vB1 vB2 vB3)) := hD
    obtain rfl := Option.some.inj h
    exact W.vret hx hb hr (fun t ht hW => ⟨⟨(), rfl, trivial, by rw [ht]; exact hP, hD⟩, hS.F ht⟩) hS.2.2 dX6_readLast_51
  unfold pX6_readLast at h
  refine lv_aload_n hx hb dX6_readLast_0 rfl (lv_at hl 1 rfl) ?_
  obtain ⟨q2, h1, h⟩ := Option.bind_eq_some_iff.mp h
  refine kcvw (ws' := (wRR aU vU0 vU1 ++ (wTX cC aT vT0 vT1 q2.1 q2.2.1 q2.2.2.1 q2.2.2.2 ++ wBK cI aB vB0 vB1 vB2 vB3))) [1, 2] (va_runV (As := []) (rest := []) ⟨hx, hb, hml, hown, hts⟩ (kX8_readNumber l D cI cC cS aT vT0 vT1 vT2 vT3 vT4 vT5 s.heap.size h1) (cwV 0 hts gX6_readLast_X8_readNumber rfl rfl rfl (by decide +kernel) ⟨Nat.le_of_ble_eq_true rfl, Nat.le_of_ble_eq_true rfl⟩) (kpreV hK hN hP hD [1, 2] rfl (by decide) 8 rfl rfl) rfl rfl hl.1 rfl (lv_room (Nat.le_of_ble_eq_true rfl)) dX6_readLast_1 ⟨Nat.le_refl _, Nat.le_refl _⟩) hP hD hS hA rfl (by decide) rfl [0, 1, 2, 0, 0, 0, 0] (by decide +kernel) rfl (fun H locs hP hD hS => ?_)
  refine lv_iload_n hx hb dX6_readLast_4 rfl (lv_at hl 3 rfl) ?_
  refine lv_istore (lv' := [(4, .int i3), (0, .ref aU), (1, .ref aT.1), (2, .ref aB.1), (3, .int i3)]) hx hb dX6_readLast_5 hl (by decide) rfl (fun ls hl => ?_)
  refine lv_aload_n hx hb dX6_readLast_7 rfl (lv_at hl 2 rfl) ?_
  refine lv_bipush (v := (58 : Int32)) hx hb dX6_readLast_8 (by decide) ?_
  obtain ⟨q4, h3, h⟩ := Option.bind_eq_some_iff.mp h
  refine kcir [1, 2] (va_runV (As := [.int (58 : Int32)]) (rest := []) ⟨hx, hb, hml, hown, hts⟩ (kX8_stands l D cI cC cS aT vT0 vT1 q2.1 q2.2.1 q2.2.2.1 q2.2.2.2 (58 : Int32) H.size h3) (cwV 1 hts gX6_readLast_X8_stands rfl rfl rfl (by decide +kernel) ⟨Nat.le_of_ble_eq_true rfl, Nat.le_of_ble_eq_true rfl⟩) (kpreV hK hN hP hD [1, 2] rfl (by decide) 8 rfl rfl) rfl rfl hl.1 rfl (lv_room (Nat.le_of_ble_eq_true rfl)) dX6_readLast_10 ⟨Nat.le_refl _, Nat.le_refl _⟩) hP hD hS hA rfl (fun H locs hP hS => ?_)
  refine lv_if_eq (tgt := 35) hx hb dX6_readLast_13 (by decide) (fun g => ?_) (fun g => ?_)
  · rw [if_pos g] at h
    exact j35 vU1 q2.1 q2.2.1 q2.2.2.1 q2.2.2.2 i3 _ _ _ h hP hD hS (lv_sub hl [1, 2, 3, 0] rfl)
  · rw [if_neg g] at h
    refine lv_aload_n hx hb dX6_readLast_16 rfl (lv_at hl 1 rfl) ?_
    refine lv_aload_n hx hb dX6_readLast_17 rfl (lv_at hl 2 rfl) ?_
    refine lv_aload_n hx hb dX6_readLast_18 rfl (lv_at hl 3 rfl) ?_
    refine lv_iload_n hx hb dX6_readLast_19 rfl (lv_at hl 4 rfl) ?_
    obtain ⟨q8, h7, h⟩ := Option.bind_eq_some_iff.mp h
    refine kciw (ws' := (wRR aU vU0 vU1 ++ (wTX cC aT vT0 vT1 q2.1 q8.2 q2.2.2.1 q2.2.2.2 ++ wBK cI aB vB0 vB1 vB2 vB3))) [0, 1, 2, 3, 4, 5, 6] (va_runV (As := [.ref aT.1, .ref aB.1, .int i3]) (rest := []) ⟨hx, hb, hml, hown, hts⟩ (kX6_lookAtChapter l D cI cC cS aU vU0 vU1 aT vT0 vT1 q2.1 q2.2.1 q2.2.2.1 q2.2.2.2 aB vB0 vB1 vB2 vB3 i3 H.size h7) (cwV 3 hts gX6_readLast_X6_lookAtChapter rfl rfl rfl (by decide +kernel) ⟨Nat.le_of_ble_eq_true rfl, Nat.le_of_ble_eq_true rfl⟩) (kpreV hK hN hP hD [0, 1, 2, 3, 4, 5, 6] rfl (by decide) 6 rfl rfl) rfl rfl hl.1 rfl (lv_room (Nat.le_of_ble_eq_true rfl)) dX6_readLast_20 ⟨Nat.le_refl _, Nat.le_refl _⟩) hP hD hS hA rfl (by decide) rfl [1, 2, 3, 4, 5, 6, 7] (by decide +kernel) rfl (fun H locs hP hD hS => ?_)
    refine lv_istore (lv' := [(4, .int q8.1), (0, .ref aU), (1, .ref aT.1), (2, .ref aB.1), (3, .int i3)]) hx hb dX6_readLast_23 hl (by decide) rfl (fun ls hl => ?_)
    refine lv_aload_n hx hb dX6_readLast_25 rfl (lv_at hl 2 rfl) ?_
    refine lv_bipush (v := (58 : Int32)) hx hb dX6_readLast_26 (by decide) ?_
    obtain ⟨q10, h9, h⟩ := Option.bind_eq_some_iff.mp h
    refine kcvw (ws' := (wRR aU vU0 vU1 ++ (wTX cC aT vT0 vT1 q10.1 q10.2 q2.2.2.1 q2.2.2.2 ++ wBK cI aB vB0 vB1 vB2 vB3))) [1, 2] (va_runV (As := [.int (58 : Int32)]) (rest := []) ⟨hx, hb, hml, hown, hts⟩ (kX8_skip l D cI cC cS aT vT0 vT1 q2.1 q8.2 q2.2.2.1 q2.2.2.2 (58 : Int32) H.size h9) (cwV 1 hts gX6_readLast_X8_skip rfl rfl rfl (by decide +kernel) ⟨Nat.le_of_ble_eq_true rfl, Nat.le_of_ble_eq_true rfl⟩) (kpreV hK hN hP hD [1, 2] rfl (by decide) 8 rfl rfl) rfl rfl hl.1 rfl (lv_room (Nat.le_of_ble_eq_true rfl)) dX6_readLast_28 ⟨Nat.le_refl _, Nat.le_refl _⟩) hP hD hS hA rfl (by decide) rfl [0, 1, 2, 0, 0, 0, 0] (by decide +kernel) rfl (fun H locs hP hD hS => ?_)
    refine lv_aload_n hx hb dX6_readLast_31 rfl (lv_at hl 2 rfl) ?_
    obtain ⟨q12, h11, h⟩ := Option.bind_eq_some_iff.mp h
    refine kcvw (ws' := (wRR aU vU0 vU1 ++ (wTX cC aT vT0 vT1 q12.1 q12.2.1 q12.2.2.1 q12.2.2.2 ++ wBK cI aB vB0 vB1 vB2 vB3))) [1, 2] (va_runV (As := []) (rest := []) ⟨hx, hb, hml, hown, hts⟩ (kX8_readNumber l D cI cC cS aT vT0 vT1 q10.1 q10.2 q2.2.2.1 q2.2.2.2 H.size h11) (cwV 0 hts gX6_readLast_X8_readNumber rfl rfl rfl (by decide +kernel) ⟨Nat.le_of_ble_eq_true rfl, Nat.le_of_ble_eq_true rfl⟩) (kpreV hK hN hP hD [1, 2] rfl (by decide) 8 rfl rfl) rfl rfl hl.1 rfl (lv_room (Nat.le_of_ble_eq_true rfl)) dX6_readLast_32 ⟨Nat.le_refl _, Nat.le_refl _⟩) hP hD hS hA rfl (by decide) rfl [0, 1, 2, 0, 0, 0, 0] (by decide +kernel) rfl (fun H locs hP hD hS => ?_)
    exact j35 vU1 q12.1 q12.2.1 q12.2.2.1 q12.2.2.2 q8.1 _ _ _ h hP hD hS (lv_sub hl [1, 2, 3, 0] rfl)
set_option maxHeartbeats 8000000 in
set_option maxRecDepth 100000 in
theorem kX6_read (l : Launch) (D : va_G) (cI cC cS : ClassId) (aU : Nat) (vU0 : Int32) (vU1 : Int32) (aT : Nat × Nat) (vT0 : (Nat → Int32)) (vT1 : Int32) (vT2 : Int32) (vT3 : Int32) (vT4 : Int32) (vT5 : Int32) (aB : Nat × Nat × Nat × Nat) (vB0 : (Nat → Int32)) (vB1 : (Nat → Int32)) (vB2 : (Nat → Int32)) (vB3 : Int32) (sz : Nat) {q : Int32 × Int32 × Int32 × Int32 × Int32 × Int32 × Int32} (h : pX6_read vT0 vT1 vB0 vB3 = some q) : kMi l yX6_read wsX6_read ({ frames := 5, cells := 0, slots := 0, locals := 115 } : Room) D (kTy cI cC cS) [.ref aU, .ref aT.1, .ref aB.1] (wRR aU vU0 vU1 ++ (wTX cC aT vT0 vT1 vT2 vT3 vT4 vT5 ++ wBK cI aB vB0 vB1 vB2 vB3)) sz q.1 (wRR aU q.2.1 q.2.2.1 ++ (wTX cC aT vT0 vT1 q.2.2.2.1 q.2.2.2.2.1 q.2.2.2.2.2.1 q.2.2.2.2.2.2 ++ wBK cI aB vB0 vB1 vB2 vB3)) := by
  refine Met.ofW (cc := cX6_read) (maxL := 4) (ret := (some .int)) (by decide) rfl ?_
  intro p e s m args below meth c s₁ B hml hv
  obtain ⟨rfl, hsz, hP, hK, hD0, hN⟩ := hv
  have hx := B.exec
  have hb := B.bytes
  have hr := B.returns
  have hts := atoms_spec (ws := wsX6_read) B.pre
  have hown : s.vm.findClass RX6 = some m.cls := findClass_of_methodNamed B.named
  have hlocks := B.notSynchronized
  subst hsz
  have hD := hD0.self (sz := s.heap.size)
  generalize hAe : va_A (wRR aU vU0 vU1 ++ (wTX cC aT vT0 vT1 vT2 vT3 vT4 vT5 ++ wBK cI aB vB0 vB1 vB2 vB3)) s.heap.size = A at hD ⊢
  have hA : ∀ q : Nat, s.heap.size ≤ q → A q := fun q h => by rw [← hAe]; exact Or.inr h
  have hS : va_S A s.heap s.heap [] := va_S.rf
  have huX6 : ∀ w ∈ u_ws RX6 TX6 2, w ∈ wsX6_read := by decide +kernel
  have huX8 : ∀ w ∈ u_ws RX8 TX8 6, w ∈ wsX6_read := by decide +kernel
  have hl := lv_entry ([.ref aU, .ref aT.1, .ref aB.1]) (n := 4) (Nat.le_of_ble_eq_true rfl)
  rw [lg_entry_eq]
  generalize (lg_sl ([.ref aU, .ref aT.1, .ref aB.1]) ++ List.replicate (4 - (lg_sl ([.ref aU, .ref aT.1, .ref aB.1])).length) Slot.unset).toArray = ls at hl ⊢
  have hl : lv_has ls 4 [(0, .ref aU), (1, .ref aT.1), (2, .ref aB.1)] := hl
  have j66 : ∀ (c0_0 : Int32) (c0_1 : Int32) (c1_2 : Int32) (c1_3 : Int32) (c1_4 : Int32) (c1_5 : Int32) (H : Heap) (locs : List Loc) (ls : Array Slot), pX6_read_j66 vT0 vT1 vB0 vB3 c0_0 c0_1 c1_2 c1_3 c1_4 c1_5 = some q → va_P D vwCl (wRR aU c0_0 c0_1 ++ (wTX cC aT vT0 vT1 c1_2 c1_3 c1_4 c1_5 ++ wBK cI aB vB0 vB1 vB2 vB3)) H → va_D A (wRR aU c0_0 c0_1 ++ (wTX cC aT vT0 vT1 c1_2 c1_3 c1_4 c1_5 ++ wBK cI aB vB0 vB1 vB2 vB3)) → va_S A s.heap H locs → lv_has ls 4 [(1, .ref aT.1)] → W p l e ({ frames := 5, cells := 0, slots := 0, locals := 115 } : Room) s m ([.ref aU, .ref aT.1, .ref aB.1] : List Value).toArray below meth c H locs 0 0 (MQ below (va_Qi (fun (r : Int32) (_ : Unit) => r = q.1) (fun _ => kPost D (wRR aU q.2.1 q.2.2.1 ++ (wTX cC aT vT0 vT1 q.2.2.2.1 q.2.2.2.2.1 q.2.2.2.2.2.1 q.2.2.2.2.2.2 ++ wBK cI aB vB0 vB1 vB2 vB3)) A) A) ([.ref aU, .ref aT.1, .ref aB.1] : List Value).toArray s 0 0 A) (F0 m 66 ls []) := by
    clear h hP hD hS hl
    intro c0_0 c0_1 c1_2 c1_3 c1_4 c1_5 H locs ls h hP hD hS hl
    unfold pX6_read_j66 at h
    refine lv_aload_n hx hb dX6_read_66 rfl (lv_at hl 0 rfl) ?_
    obtain ⟨q16, h15, h⟩ := Option.bind_eq_some_iff.mp h
    refine kcir [1, 2] (va_runV (As := []) (rest := []) ⟨hx, hb, hml, hown, hts⟩ (kX8_goesOn l D cI cC cS aT vT0 vT1 c1_2 c1_3 c1_4 c1_5 H.size h15) (cwV 0 hts gX6_read_X8_goesOn rfl rfl rfl (by decide +kernel) ⟨Nat.le_of_ble_eq_true rfl, Nat.le_of_ble_eq_true rfl⟩) (kpreV hK hN hP hD [1, 2] rfl (by decide) 8 rfl rfl) rfl rfl hl.1 rfl (lv_room (Nat.le_of_ble_eq_true rfl)) dX6_read_67 ⟨Nat.le_refl _, Nat.le_refl _⟩) hP hD hS hA rfl (fun H locs hP hS => ?_)
    refine lv_if_eq (tgt := 81) hx hb dX6_read_70 (by decide) (fun g => ?_) (fun g => ?_)
    · rw [if_pos g] at h
      refine lv_aload_n hx hb dX6_read_81 rfl (lv_at hl 0 rfl) ?_
      refine va_getN (D := D) (ci := 8) (v := .int c1_3) (C := RX8) (T := TX8) (N := 6) hx hb hts huX8 hown hK hP 1 rfl rfl 3 (by decide) (hN.f 17 rfl) (fun _ h9 => h9) rfl dX6_read_82 ?_
      obtain rfl := Option.some.inj h
      exact W.iret (v := c1_3) hx hb hr (fun t ht hW => ⟨⟨_, (), rfl, rfl, by rw [ht]; exact hP, hD⟩, hS.F ht⟩) hS.2.2 dX6_read_85
    · rw [if_neg g] at h
      refine lv_aload_n hx hb dX6_read_73 rfl (lv_at hl 0 rfl) ?_
      refine lv_aload_n hx hb dX6_read_74 rfl (lv_at hl 0 rfl) ?_
      refine va_getN (D := D) (ci := 8) (v := .int c1_2) (C := RX8) (T := TX8) (N := 6) hx hb hts huX8 hown hK hP 1 rfl rfl 2 (by decide) (hN.f 16 rfl) (fun _ h9 => h9) rfl dX6_read_75 ?_
      obtain ⟨q18, h17, h⟩ := Option.bind_eq_some_iff.mp h
      refine kcvw (ws' := (wRR aU c0_0 c0_1 ++ (wTX cC aT vT0 vT1 c1_2 q18 c1_4 c1_5 ++ wBK cI aB vB0 vB1 vB2 vB3))) [1, 2] (va_runV (As := [.int c1_2]) (rest := []) ⟨hx, hb, hml, hown, hts⟩ (kX8_failAt l D cI cC cS aT vT0 vT1 c1_2 c1_3 c1_4 c1_5 c1_2 H.size h17) (cwV 1 hts gX6_read_X8_failAt rfl rfl rfl (by decide +kernel) ⟨Nat.le_of_ble_eq_true rfl, Nat.le_of_ble_eq_true rfl⟩) (kpreV hK hN hP hD [1, 2] rfl (by decide) 8 rfl rfl) rfl rfl hl.1 rfl (lv_room (Nat.le_of_ble_eq_true rfl)) dX6_read_78 ⟨Nat.le_refl _, Nat.le_refl _⟩) hP hD hS hA rfl (by decide) rfl [0, 1, 2, 0, 0, 0, 0] (by decide +kernel) rfl (fun H locs hP hD hS => ?_)
      refine lv_aload_n hx hb dX6_read_81 rfl (lv_at hl 0 rfl) ?_
      refine va_getN (D := D) (ci := 8) (v := .int q18) (C := RX8) (T := TX8) (N := 6) hx hb hts huX8 hown hK hP 1 rfl rfl 3 (by decide) (hN.f 17 rfl) (fun _ h9 => h9) rfl dX6_read_82 ?_
      obtain rfl := Option.some.inj h
      exact W.iret (v := q18) hx hb hr (fun t ht hW => ⟨⟨_, (), rfl, rfl, by rw [ht]; exact hP, hD⟩, hS.F ht⟩) hS.2.2 dX6_read_85
  unfold pX6_read at h
  refine lv_aload_n hx hb dX6_read_0 rfl (lv_at hl 1 rfl) ?_
  obtain ⟨q2, h1, h⟩ := Option.bind_eq_some_iff.mp h
  refine kcvw (ws' := (wRR aU vU0 vU1 ++ (wTX cC aT vT0 vT1 q2.1 q2.2.1 q2.2.2.1 q2.2.2.2 ++ wBK cI aB vB0 vB1 vB2 vB3))) [1, 2] (va_runV (As := []) (rest := []) ⟨hx, hb, hml, hown, hts⟩ (kX8_restart l D cI cC cS aT vT0 vT1 vT2 vT3 vT4 vT5 s.heap.size h1) (cwV 0 hts gX6_read_X8_restart rfl rfl rfl (by decide +kernel) ⟨Nat.le_of_ble_eq_true rfl, Nat.le_of_ble_eq_true rfl⟩) (kpreV hK hN hP hD [1, 2] rfl (by decide) 8 rfl rfl) rfl rfl hl.1 rfl (lv_room (Nat.le_of_ble_eq_true rfl)) dX6_read_1 ⟨Nat.le_refl _, Nat.le_refl _⟩) hP hD hS hA rfl (by decide) rfl [0, 1, 2, 0, 0, 0, 0] (by decide +kernel) rfl (fun H locs hP hD hS => ?_)
  refine lv_aload_n hx hb dX6_read_4 rfl (lv_at hl 1 rfl) ?_
  obtain ⟨q4, h3, h⟩ := Option.bind_eq_some_iff.mp h
  refine kcvw (ws' := (wRR aU vU0 vU1 ++ (wTX cC aT vT0 vT1 q4.1 q4.2.1 q4.2.2.1 q4.2.2.2 ++ wBK cI aB vB0 vB1 vB2 vB3))) [1, 2] (va_runV (As := []) (rest := []) ⟨hx, hb, hml, hown, hts⟩ (kX8_readNumber l D cI cC cS aT vT0 vT1 q2.1 q2.2.1 q2.2.2.1 q2.2.2.2 H.size h3) (cwV 0 hts gX6_read_X8_readNumber rfl rfl rfl (by decide +kernel) ⟨Nat.le_of_ble_eq_true rfl, Nat.le_of_ble_eq_true rfl⟩) (kpreV hK hN hP hD [1, 2] rfl (by decide) 8 rfl rfl) rfl rfl hl.1 rfl (lv_room (Nat.le_of_ble_eq_true rfl)) dX6_read_5 ⟨Nat.le_refl _, Nat.le_refl _⟩) hP hD hS hA rfl (by decide) rfl [0, 1, 2, 0, 0, 0, 0] (by decide +kernel) rfl (fun H locs hP hD hS => ?_)
  refine lv_aload_n hx hb dX6_read_8 rfl (lv_at hl 0 rfl) ?_
  refine lv_aload_n hx hb dX6_read_9 rfl (lv_at hl 1 rfl) ?_
  refine lv_aload_n hx hb dX6_read_10 rfl (lv_at hl 2 rfl) ?_
  refine lv_iconst (v := (1 : Int32)) hx hb dX6_read_11 (by decide) ?_
  obtain ⟨q6, h5, h⟩ := Option.bind_eq_some_iff.mp h
  refine kciw (ws' := (wRR aU vU0 vU1 ++ (wTX cC aT vT0 vT1 q4.1 q6.2 q4.2.2.1 q4.2.2.2 ++ wBK cI aB vB0 vB1 vB2 vB3))) [0, 1, 2, 3, 4, 5, 6] (va_runV (As := [.ref aT.1, .ref aB.1, .int (1 : Int32)]) (rest := []) ⟨hx, hb, hml, hown, hts⟩ (kX6_lookAtChapter l D cI cC cS aU vU0 vU1 aT vT0 vT1 q4.1 q4.2.1 q4.2.2.1 q4.2.2.2 aB vB0 vB1 vB2 vB3 (1 : Int32) H.size h5) (cwV 3 hts gX6_read_X6_lookAtChapter rfl rfl rfl (by decide +kernel) ⟨Nat.le_of_ble_eq_true rfl, Nat.le_of_ble_eq_true rfl⟩) (kpreV hK hN hP hD [0, 1, 2, 3, 4, 5, 6] rfl (by decide) 6 rfl rfl) rfl rfl hl.1 rfl (lv_room (Nat.le_of_ble_eq_true rfl)) dX6_read_12 ⟨Nat.le_refl _, Nat.le_refl _⟩) hP hD hS hA rfl (by decide) rfl [1, 2, 3, 4, 5, 6, 7] (by decide +kernel) rfl (fun H locs hP hD hS => ?_)
  refine lv_istore_n (lv' := [(3, .int q6.1), (0, .ref aU), (1, .ref aT.1), (2, .ref aB.1)]) hx hb dX6_read_15 rfl hl (by decide) rfl (fun ls hl => ?_)
  refine lv_aload_n hx hb dX6_read_16 rfl (lv_at hl 2 rfl) ?_
  refine lv_bipush (v := (58 : Int32)) hx hb dX6_read_17 (by decide) ?_
  obtain ⟨q8, h7, h⟩ := Option.bind_eq_some_iff.mp h
  refine kcvw (ws' := (wRR aU vU0 vU1 ++ (wTX cC aT vT0 vT1 q8.1 q8.2 q4.2.2.1 q4.2.2.2 ++ wBK cI aB vB0 vB1 vB2 vB3))) [1, 2] (va_runV (As := [.int (58 : Int32)]) (rest := []) ⟨hx, hb, hml, hown, hts⟩ (kX8_skip l D cI cC cS aT vT0 vT1 q4.1 q6.2 q4.2.2.1 q4.2.2.2 (58 : Int32) H.size h7) (cwV 1 hts gX6_read_X8_skip rfl rfl rfl (by decide +kernel) ⟨Nat.le_of_ble_eq_true rfl, Nat.le_of_ble_eq_true rfl⟩) (kpreV hK hN hP hD [1, 2] rfl (by decide) 8 rfl rfl) rfl rfl hl.1 rfl (lv_room (Nat.le_of_ble_eq_true rfl)) dX6_read_19 ⟨Nat.le_refl _, Nat.le_refl _⟩) hP hD hS hA rfl (by decide) rfl [0, 1, 2, 0, 0, 0, 0] (by decide +kernel) rfl (fun H locs hP hD hS => ?_)
  refine lv_aload_n hx hb dX6_read_22 rfl (lv_at hl 2 rfl) ?_
  obtain ⟨q10, h9, h⟩ := Option.bind_eq_some_iff.mp h
  refine kcvw (ws' := (wRR aU vU0 vU1 ++ (wTX cC aT vT0 vT1 q10.1 q10.2.1 q10.2.2.1 q10.2.2.2 ++ wBK cI aB vB0 vB1 vB2 vB3))) [1, 2] (va_runV (As := []) (rest := []) ⟨hx, hb, hml, hown, hts⟩ (kX8_readNumber l D cI cC cS aT vT0 vT1 q8.1 q8.2 q4.2.2.1 q4.2.2.2 H.size h9) (cwV 0 hts gX6_read_X8_readNumber rfl rfl rfl (by decide +kernel) ⟨Nat.le_of_ble_eq_true rfl, Nat.le_of_ble_eq_true rfl⟩) (kpreV hK hN hP hD [1, 2] rfl (by decide) 8 rfl rfl) rfl rfl hl.1 rfl (lv_room (Nat.le_of_ble_eq_true rfl)) dX6_read_23 ⟨Nat.le_refl _, Nat.le_refl _⟩) hP hD hS hA rfl (by decide) rfl [0, 1, 2, 0, 0, 0, 0] (by decide +kernel) rfl (fun H locs hP hD hS => ?_)
  refine lv_aload_n hx hb dX6_read_26 rfl (lv_at hl 1 rfl) ?_
  refine lv_aload_n hx hb dX6_read_27 rfl (lv_at hl 1 rfl) ?_
  refine lv_aload_n hx hb dX6_read_28 rfl (lv_at hl 2 rfl) ?_
  refine lv_aload_n hx hb dX6_read_29 rfl (lv_at hl 3 rfl) ?_
  refine lv_iload_n hx hb dX6_read_30 rfl (lv_at hl 0 rfl) ?_
  refine lv_iconst (v := (0 : Int32)) hx hb dX6_read_31 (by decide) ?_
  obtain ⟨q12, h11, h⟩ := Option.bind_eq_some_iff.mp h
  refine kciw (ws' := (wRR aU vU0 vU1 ++ (wTX cC aT vT0 vT1 q10.1 q12.2 q10.2.2.1 q10.2.2.2 ++ wBK cI aB vB0 vB1 vB2 vB3))) [0, 1, 2, 3, 4, 5, 6] (va_runV (As := [.ref aT.1, .ref aB.1, .int q6.1, .int (0 : Int32)]) (rest := [.ref aU]) ⟨hx, hb, hml, hown, hts⟩ (kX6_lookAtVerse l D cI cC cS aU vU0 vU1 aT vT0 vT1 q10.1 q10.2.1 q10.2.2.1 q10.2.2.2 aB vB0 vB1 vB2 vB3 q6.1 (0 : Int32) H.size h11) (cwV 4 hts gX6_read_X6_lookAtVerse rfl rfl rfl (by decide +kernel) ⟨Nat.le_of_ble_eq_true rfl, Nat.le_of_ble_eq_true rfl⟩) (kpreV hK hN hP hD [0, 1, 2, 3, 4, 5, 6] rfl (by decide) 6 rfl rfl) rfl rfl hl.1 rfl (lv_room (Nat.le_of_ble_eq_true rfl)) dX6_read_32 ⟨Nat.le_refl _, Nat.le_refl _⟩) hP hD hS hA rfl (by decide) rfl [1, 2, 3, 4, 5, 6, 7] (by decide +kernel) rfl (fun H locs hP hD hS => ?_)
  refine va_put (D := D) (ci := 6) (v := .int q12.1) (ty := .int) (C := RX6) (T := TX6) (N := 2) hx hb hts huX6 tyX6 tyX6_ok nmX6 hown hK hP hD hS 0 rfl rfl 0 (by decide) (hts (.fieldLink RX6 29 "VerseColumns$ReferenceReader" "first" "I") (by decide +kernel)) (fun _ h9 => h9) rfl (by decide +kernel) rfl rfl (Nat.le_of_ble_eq_true rfl) dX6_read_35 (fun H locs hP hD hS => ?_)
  have hP : va_P D vwCl (wRR aU q12.1 vU1 ++ (wTX cC aT vT0 vT1 q10.1 q12.2 q10.2.2.1 q10.2.2.2 ++ wBK cI aB vB0 vB1 vB2 vB3)) H := hP
  have hD : va_D A (wRR aU q12.1 vU1 ++ (wTX cC aT vT0 vT1 q10.1 q12.2 q10.2.2.1 q10.2.2.2 ++ wBK cI aB vB0 vB1 vB2 vB3)) := hD
  refine lv_aload_n hx hb dX6_read_38 rfl (lv_at hl 1 rfl) ?_
  refine lv_aload_n hx hb dX6_read_39 rfl (lv_at hl 1 rfl) ?_
  refine va_get (D := D) (ci := 6) (v := .int q12.1) (C := RX6) (T := TX6) (N := 2) hx hb hts huX6 hown hK hP 0 rfl rfl 0 (by decide) (hts (.fieldLink RX6 29 "VerseColumns$ReferenceReader" "first" "I") (by decide +kernel)) (fun _ h9 => h9) rfl dX6_read_40 ?_
  refine va_put (D := D) (ci := 6) (v := .int q12.1) (ty := .int) (C := RX6) (T := TX6) (N := 2) hx hb hts huX6 tyX6 tyX6_ok nmX6 hown hK hP hD hS 0 rfl rfl 1 (by decide) (hts (.fieldLink RX6 33 "VerseColumns$ReferenceReader" "last" "I") (by decide +kernel)) (fun _ h9 => h9) rfl (by decide +kernel) rfl rfl (Nat.le_of_ble_eq_true rfl) dX6_read_43 (fun H locs hP hD hS => ?_)
  have hP : va_P D vwCl (wRR aU q12.1 q12.1 ++ (wTX cC aT vT0 vT1 q10.1 q12.2 q10.2.2.1 q10.2.2.2 ++ wBK cI aB vB0 vB1 vB2 vB3)) H := hP
  have hD : va_D A (wRR aU q12.1 q12.1 ++ (wTX cC aT vT0 vT1 q10.1 q12.2 q10.2.2.1 q10.2.2.2 ++ wBK cI aB vB0 vB1 vB2 vB3)) := hD
  refine lv_aload_n hx hb dX6_read_46 rfl (lv_at hl 2 rfl) ?_
  obtain ⟨q14, h13, h⟩ := Option.bind_eq_some_iff.mp h
  refine kcir [1, 2] (va_runV (As := []) (rest := []) ⟨hx, hb, hml, hown, hts⟩ (kX8_goesOn l D cI cC cS aT vT0 vT1 q10.1 q12.2 q10.2.2.1 q10.2.2.2 H.size h13) (cwV 0 hts gX6_read_X8_goesOn rfl rfl rfl (by decide +kernel) ⟨Nat.le_of_ble_eq_true rfl, Nat.le_of_ble_eq_true rfl⟩) (kpreV hK hN hP hD [1, 2] rfl (by decide) 8 rfl rfl) rfl rfl hl.1 rfl (lv_room (Nat.le_of_ble_eq_true rfl)) dX6_read_47 ⟨Nat.le_refl _, Nat.le_refl _⟩) hP hD hS hA rfl (fun H locs hP hS => ?_)
  refine lv_if_eq (tgt := 66) hx hb dX6_read_50 (by decide) (fun g => ?_) (fun g => ?_)
  · rw [if_pos g] at h
    exact j66 q12.1 q12.1 q10.1 q12.2 q10.2.2.1 q10.2.2.2 _ _ _ h hP hD hS (lv_sub hl [2] rfl)
  · rw [if_neg g] at h
    refine lv_aload_n hx hb dX6_read_53 rfl (lv_at hl 2 rfl) ?_
    refine lv_bipush (v := (45 : Int32)) hx hb dX6_read_54 (by decide) ?_
    obtain ⟨q20, h19, h⟩ := Option.bind_eq_some_iff.mp h
    refine kcvw (ws' := (wRR aU q12.1 q12.1 ++ (wTX cC aT vT0 vT1 q20.1 q20.2 q10.2.2.1 q10.2.2.2 ++ wBK cI aB vB0 vB1 vB2 vB3))) [1, 2] (va_runV (As := [.int (45 : Int32)]) (rest := []) ⟨hx, hb, hml, hown, hts⟩ (kX8_skip l D cI cC cS aT vT0 vT1 q10.1 q12.2 q10.2.2.1 q10.2.2.2 (45 : Int32) H.size h19) (cwV 1 hts gX6_read_X8_skip rfl rfl rfl (by decide +kernel) ⟨Nat.le_of_ble_eq_true rfl, Nat.le_of_ble_eq_true rfl⟩) (kpreV hK hN hP hD [1, 2] rfl (by decide) 8 rfl rfl) rfl rfl hl.1 rfl (lv_room (Nat.le_of_ble_eq_true rfl)) dX6_read_56 ⟨Nat.le_refl _, Nat.le_refl _⟩) hP hD hS hA rfl (by decide) rfl [0, 1, 2, 0, 0, 0, 0] (by decide +kernel) rfl (fun H locs hP hD hS => ?_)
    refine lv_aload_n hx hb dX6_read_59 rfl (lv_at hl 1 rfl) ?_
    refine lv_aload_n hx hb dX6_read_60 rfl (lv_at hl 2 rfl) ?_
    refine lv_aload_n hx hb dX6_read_61 rfl (lv_at hl 3 rfl) ?_
    refine lv_iload_n hx hb dX6_read_62 rfl (lv_at hl 0 rfl) ?_
    obtain ⟨q22, h21, h⟩ := Option.bind_eq_some_iff.mp h
    refine kcvw (ws' := (wRR aU q12.1 q22.1 ++ (wTX cC aT vT0 vT1 q22.2.1 q22.2.2.1 q22.2.2.2.1 q22.2.2.2.2 ++ wBK cI aB vB0 vB1 vB2 vB3))) [0, 1, 2, 3, 4, 5, 6] (va_runV (As := [.ref aT.1, .ref aB.1, .int q6.1]) (rest := []) ⟨hx, hb, hml, hown, hts⟩ (kX6_readLast l D cI cC cS aU q12.1 q12.1 aT vT0 vT1 q20.1 q20.2 q10.2.2.1 q10.2.2.2 aB vB0 vB1 vB2 vB3 q6.1 H.size h21) (cwV 3 hts gX6_read_X6_readLast rfl rfl rfl (by decide +kernel) ⟨Nat.le_of_ble_eq_true rfl, Nat.le_of_ble_eq_true rfl⟩) (kpreV hK hN hP hD [0, 1, 2, 3, 4, 5, 6] rfl (by decide) 6 rfl rfl) rfl rfl hl.1 rfl (lv_room (Nat.le_of_ble_eq_true rfl)) dX6_read_63 ⟨Nat.le_refl _, Nat.le_refl _⟩) hP hD hS hA rfl (by decide) rfl [1, 2, 3, 4, 5, 6, 7] (by decide +kernel) rfl (fun H locs hP hD hS => ?_)
    exact j66 q12.1 q22.1 q22.2.1 q22.2.2.1 q22.2.2.2.1 q22.2.2.2.2 _ _ _ h hP hD hS (lv_sub hl [2] rfl)
