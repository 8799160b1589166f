-- walks: map (printed by wip/whole/gen)
set_option maxHeartbeats 8000000 in
set_option maxRecDepth 100000 in
theorem kX1_clear (l : Launch) (D : va_G) (cI cC cS : ClassId) (aM : Nat × Nat × Nat) (vM0 : (Nat → Int32)) (vM1 : (Nat → Int32)) (vM2 : Int32) (sz : Nat) {q : Int32} (h : pX1_clear  = some q) : kMv l yX1_clear wsX1_clear ({ frames := 0, cells := 0, slots := 0, locals := 0 } : Room) D (kTy cI cC cS) [.ref aM.1] (wMP cI aM vM0 vM1 vM2) sz (wMP cI aM vM0 vM1 q) := by
  refine Met.ofW (cc := cX1_clear) (maxL := 1) (ret := none) (by decide) rfl ?_
  intro p e s m args below meth c s₁ B hml hv
  obtain ⟨rfl, hsz, hP, hK, hD0, hN⟩ := hv
  have hx := B.exec
  have hb := B.bytes
  have hr := B.returns
  have hts := atoms_spec (ws := wsX1_clear) B.pre
  have hown : s.vm.findClass RX1 = some m.cls := findClass_of_methodNamed B.named
  have hlocks := B.notSynchronized
  subst hsz
  have hD := hD0.self (sz := s.heap.size)
  generalize hAe : va_A (wMP cI aM vM0 vM1 vM2) s.heap.size = A at hD ⊢
  have hA : ∀ q : Nat, s.heap.size ≤ q → A q := fun q h => by rw [← hAe]; exact Or.inr h
  have hS : va_S A s.heap s.heap [] := va_S.rf
  have huX1 : ∀ w ∈ u_ws RX1 TX1 3, w ∈ wsX1_clear := by decide +kernel
  have hl := lv_entry ([.ref aM.1]) (n := 1) (Nat.le_of_ble_eq_true rfl)
  rw [lg_entry_eq]
  generalize (lg_sl ([.ref aM.1]) ++ List.replicate (1 - (lg_sl ([.ref aM.1])).length) Slot.unset).toArray = ls at hl ⊢
  have hl : lv_has ls 1 [(0, .ref aM.1)] := hl
  unfold pX1_clear at h
  refine lv_aload_n hx hb dX1_clear_0 rfl (lv_at hl 0 rfl) ?_
  refine lv_iconst (v := (0 : Int32)) hx hb dX1_clear_1 (by decide) ?_
  refine va_put (D := D) (ci := 1) (v := .int (0 : Int32)) (ty := .int) (C := RX1) (T := TX1) (N := 3) hx hb hts huX1 tyX1 tyX1_ok nmX1 hown hK hP hD hS 0 rfl rfl 2 (by decide) (hts (.fieldLink RX1 22 "VerseColumns$GroupMap" "groups" "I") (by decide +kernel)) (fun _ h9 => h9) rfl (by decide +kernel) rfl rfl (Nat.le_of_ble_eq_true rfl) dX1_clear_2 (fun H locs hP hD hS => ?_)
  have hP : va_P D vwCl (wMP cI aM vM0 vM1 (0 : Int32)) H := hP
  have hD : va_D A (wMP cI aM vM0 vM1 (0 : Int32)) := hD
  obtain rfl := Option.some.inj h
  exact W.vret hx hb hr (fun t ht hW => ⟨⟨(), rfl, trivial, by rw [ht]; exact hP, hD⟩, hS.F ht⟩) hS.2.2 dX1_clear_5
set_option maxHeartbeats 8000000 in
set_option maxRecDepth 100000 in
theorem kX1_has (l : Launch) (D : va_G) (cI cC cS : ClassId) (aM : Nat × Nat × Nat) (vM0 : (Nat → Int32)) (vM1 : (Nat → Int32)) (vM2 : Int32) (i1 : Int32) (sz : Nat) {q : Int32} (h : pX1_has vM2 i1 = some q) : kMi l yX1_has wsX1_has ({ frames := 0, cells := 0, slots := 0, locals := 0 } : Room) D (kTy cI cC cS) [.ref aM.1, .int i1] (wMP cI aM vM0 vM1 vM2) sz q (wMP cI aM vM0 vM1 vM2) := by
  refine Met.ofW (cc := cX1_has) (maxL := 2) (ret := (some .boolean)) (by decide) rfl ?_
  intro p e s m args below meth c s₁ B hml hv
  obtain ⟨rfl, hsz, hP, hK, hD0, hN⟩ := hv
  have hx := B.exec
  have hb := B.bytes
  have hr := B.returns
  have hts := atoms_spec (ws := wsX1_has) B.pre
  have hown : s.vm.findClass RX1 = some m.cls := findClass_of_methodNamed B.named
  have hlocks := B.notSynchronized
  subst hsz
  have hD := hD0.self (sz := s.heap.size)
  generalize hAe : va_A (wMP cI aM vM0 vM1 vM2) s.heap.size = A at hD ⊢
  have hA : ∀ q : Nat, s.heap.size ≤ q → A q := fun q h => by rw [← hAe]; exact Or.inr h
  have hS : va_S A s.heap s.heap [] := va_S.rf
  have huX1 : ∀ w ∈ u_ws RX1 TX1 3, w ∈ wsX1_has := by decide +kernel
  have hl := lv_entry ([.ref aM.1, .int i1]) (n := 2) (Nat.le_of_ble_eq_true rfl)
  rw [lg_entry_eq]
  generalize (lg_sl ([.ref aM.1, .int i1]) ++ List.replicate (2 - (lg_sl ([.ref aM.1, .int i1])).length) Slot.unset).toArray = ls at hl ⊢
  have hl : lv_has ls 2 [(0, .ref aM.1), (1, .int i1)] := hl
  unfold pX1_has at h
  refine lv_iload_n hx hb dX1_has_0 rfl (lv_at hl 1 rfl) ?_
  refine lv_if_lt (tgt := 16) hx hb dX1_has_1 (by decide) (fun g => ?_) (fun g => ?_)
  · rw [if_pos g] at h
    refine lv_iconst (v := (0 : Int32)) hx hb dX1_has_16 (by decide) ?_
    obtain rfl := Option.some.inj h
    exact W.zret (v := (0 : Int32)) hx hb hr rfl (fun t ht hW => ⟨⟨_, (), rfl, rfl, by rw [ht]; exact hP, hD⟩, hS.F ht⟩) hS.2.2 dX1_has_17
  · rw [if_neg g] at h
    refine lv_iload_n hx hb dX1_has_4 rfl (lv_at hl 1 rfl) ?_
    refine lv_aload_n hx hb dX1_has_5 rfl (lv_at hl 0 rfl) ?_
    refine va_get (D := D) (ci := 1) (v := .int vM2) (C := RX1) (T := TX1) (N := 3) hx hb hts huX1 hown hK hP 0 rfl rfl 2 (by decide) (hts (.fieldLink RX1 22 "VerseColumns$GroupMap" "groups" "I") (by decide +kernel)) (fun _ h9 => h9) rfl dX1_has_6 ?_
    refine lv_icmp_ge (tgt := 16) hx hb dX1_has_9 (by decide) (fun g => ?_) (fun g => ?_)
    · rw [if_pos g] at h
      refine lv_iconst (v := (0 : Int32)) hx hb dX1_has_16 (by decide) ?_
      obtain rfl := Option.some.inj h
      exact W.zret (v := (0 : Int32)) hx hb hr rfl (fun t ht hW => ⟨⟨_, (), rfl, rfl, by rw [ht]; exact hP, hD⟩, hS.F ht⟩) hS.2.2 dX1_has_17
    · rw [if_neg g] at h
      refine lv_iconst (v := (1 : Int32)) hx hb dX1_has_12 (by decide) ?_
      refine lv_goto (tgt := 17) hx hb dX1_has_13 (by decide) ?_
      obtain rfl := Option.some.inj h
      exact W.zret (v := (1 : Int32)) hx hb hr rfl (fun t ht hW => ⟨⟨_, (), rfl, rfl, by rw [ht]; exact hP, hD⟩, hS.F ht⟩) hS.2.2 dX1_has_17
set_option maxHeartbeats 8000000 in
set_option maxRecDepth 100000 in
theorem kX1_sizeOf (l : Launch) (D : va_G) (cI cC cS : ClassId) (aM : Nat × Nat × Nat) (vM0 : (Nat → Int32)) (vM1 : (Nat → Int32)) (vM2 : Int32) (i1 : Int32) (i2 : Int32) (sz : Nat) {q : Int32} (h : pX1_sizeOf vM0 vM1 vM2 i1 i2 = some q) : kMi l yX1_sizeOf wsX1_sizeOf ({ frames := 1, cells := 0, slots := 0, locals := 21 } : Room) D (kTy cI cC cS) [.ref aM.1, .int i1, .int i2] (wMP cI aM vM0 vM1 vM2) sz q (wMP cI aM vM0 vM1 vM2) := by
  refine Met.ofW (cc := cX1_sizeOf) (maxL := 3) (ret := (some .int)) (by decide) rfl ?_
  intro p e s m args below meth c s₁ B hml hv
  obtain ⟨rfl, hsz, hP, hK, hD0, hN⟩ := hv
  have hx := B.exec
  have hb := B.bytes
  have hr := B.returns
  have hts := atoms_spec (ws := wsX1_sizeOf) B.pre
  have hown : s.vm.findClass RX1 = some m.cls := findClass_of_methodNamed B.named
  have hlocks := B.notSynchronized
  subst hsz
  have hD := hD0.self (sz := s.heap.size)
  generalize hAe : va_A (wMP cI aM vM0 vM1 vM2) s.heap.size = A at hD ⊢
  have hA : ∀ q : Nat, s.heap.size ≤ q → A q := fun q h => by rw [← hAe]; exact Or.inr h
  have hS : va_S A s.heap s.heap [] := va_S.rf
  have huX1 : ∀ w ∈ u_ws RX1 TX1 3, w ∈ wsX1_sizeOf := by decide +kernel
  have hl := lv_entry ([.ref aM.1, .int i1, .int i2]) (n := 3) (Nat.le_of_ble_eq_true rfl)
  rw [lg_entry_eq]
  generalize (lg_sl ([.ref aM.1, .int i1, .int i2]) ++ List.replicate (3 - (lg_sl ([.ref aM.1, .int i1, .int i2])).length) Slot.unset).toArray = ls at hl ⊢
  have hl : lv_has ls 3 [(0, .ref aM.1), (1, .int i1), (2, .int i2)] := hl
  unfold pX1_sizeOf at h
  refine lv_aload_n hx hb dX1_sizeOf_0 rfl (lv_at hl 0 rfl) ?_
  refine lv_iload_n hx hb dX1_sizeOf_1 rfl (lv_at hl 1 rfl) ?_
  obtain ⟨q2, h1, h⟩ := Option.bind_eq_some_iff.mp h
  refine kcir [0, 1, 2] (va_runV (As := [.int i1]) (rest := []) ⟨hx, hb, hml, hown, hts⟩ (kX1_has l D cI cC cS aM vM0 vM1 vM2 i1 s.heap.size h1) (cwV 1 hts gX1_sizeOf_X1_has rfl rfl rfl (by decide +kernel) ⟨Nat.le_of_ble_eq_true rfl, Nat.le_of_ble_eq_true rfl⟩) (kpreV hK hN hP hD [0, 1, 2] rfl (by decide) 1 rfl rfl) rfl rfl hl.1 rfl (lv_room (Nat.le_of_ble_eq_true rfl)) dX1_sizeOf_2 ⟨Nat.le_refl _, Nat.le_refl _⟩) hP hD hS hA rfl (fun H locs hP hS => ?_)
  refine lv_if_eq (tgt := 30) hx hb dX1_sizeOf_5 (by decide) (fun g => ?_) (fun g => ?_)
  · rw [if_pos g] at h
    refine lv_iconst (v := (0 : Int32)) hx hb dX1_sizeOf_30 (by decide) ?_
    obtain rfl := Option.some.inj h
    exact W.iret (v := (0 : Int32)) hx hb hr (fun t ht hW => ⟨⟨_, (), rfl, rfl, by rw [ht]; exact hP, hD⟩, hS.F ht⟩) hS.2.2 dX1_sizeOf_31
  · rw [if_neg g] at h
    refine lv_iload_n hx hb dX1_sizeOf_8 rfl (lv_at hl 2 rfl) ?_
    refine lv_if_ne (tgt := 19) hx hb dX1_sizeOf_9 (by decide) (fun g => ?_) (fun g => ?_)
    · rw [if_neg g] at h
      refine lv_aload_n hx hb dX1_sizeOf_19 rfl (lv_at hl 0 rfl) ?_
      refine va_get (D := D) (ci := 1) (v := .ref aM.2.2) (C := RX1) (T := TX1) (N := 3) hx hb hts huX1 hown hK hP 0 rfl rfl 1 (by decide) (hts (.fieldLink RX1 15 "VerseColumns$GroupMap" "right" "[I") (by decide +kernel)) (fun _ h9 => h9) rfl dX1_sizeOf_20 ?_
      refine lv_iload_n hx hb dX1_sizeOf_23 rfl (lv_at hl 1 rfl) ?_
      obtain ⟨q4, h3, h⟩ := Option.bind_eq_some_iff.mp h
      refine kcir [2] (va_runSN (As := [.ref aM.2.2, .int i1]) (rest := []) ⟨hx, hb, hml, hown, hts⟩ (kX9_cellOf l D cI cC cS aM.2.2 120 vM1 i1 H.size h3) ⟨va_cnB 2 hts gX1_sizeOf_X9_cellOf_n30 rfl rfl rfl (hN.m 15 rfl) (hts (.initialized RX9) (by decide +kernel)) (by decide +kernel) ⟨Nat.le_of_ble_eq_true rfl, Nat.le_of_ble_eq_true rfl⟩, hts (.static yX9_cellOf) (by decide +kernel), trivial⟩ (kpre hK hN hP hD [2] rfl (by decide)) rfl rfl hl.1 rfl (lv_room (Nat.le_of_ble_eq_true rfl)) dX1_sizeOf_24 ⟨Nat.le_refl _, Nat.le_refl _⟩) hP hD hS hA rfl (fun H locs hP hS => ?_)
      refine lv_goto (tgt := 31) hx hb dX1_sizeOf_27 (by decide) ?_
      obtain rfl := Option.some.inj h
      exact W.iret (v := q4) hx hb hr (fun t ht hW => ⟨⟨_, (), rfl, rfl, by rw [ht]; exact hP, hD⟩, hS.F ht⟩) hS.2.2 dX1_sizeOf_31
    · rw [if_pos g] at h
      refine lv_aload_n hx hb dX1_sizeOf_12 rfl (lv_at hl 0 rfl) ?_
      refine va_get (D := D) (ci := 1) (v := .ref aM.2.1) (C := RX1) (T := TX1) (N := 3) hx hb hts huX1 hown hK hP 0 rfl rfl 0 (by decide) (hts (.fieldLink RX1 9 "VerseColumns$GroupMap" "left" "[I") (by decide +kernel)) (fun _ h9 => h9) rfl dX1_sizeOf_13 ?_
      refine lv_goto (tgt := 23) hx hb dX1_sizeOf_16 (by decide) ?_
      refine lv_iload_n hx hb dX1_sizeOf_23 rfl (lv_at hl 1 rfl) ?_
      obtain ⟨q6, h5, h⟩ := Option.bind_eq_some_iff.mp h
      refine kcir [1] (va_runSN (As := [.ref aM.2.1, .int i1]) (rest := []) ⟨hx, hb, hml, hown, hts⟩ (kX9_cellOf l D cI cC cS aM.2.1 120 vM0 i1 H.size h5) ⟨va_cnB 2 hts gX1_sizeOf_X9_cellOf_n30 rfl rfl rfl (hN.m 15 rfl) (hts (.initialized RX9) (by decide +kernel)) (by decide +kernel) ⟨Nat.le_of_ble_eq_true rfl, Nat.le_of_ble_eq_true rfl⟩, hts (.static yX9_cellOf) (by decide +kernel), trivial⟩ (kpre hK hN hP hD [1] rfl (by decide)) rfl rfl hl.1 rfl (lv_room (Nat.le_of_ble_eq_true rfl)) dX1_sizeOf_24 ⟨Nat.le_refl _, Nat.le_refl _⟩) hP hD hS hA rfl (fun H locs hP hS => ?_)
      refine lv_goto (tgt := 31) hx hb dX1_sizeOf_27 (by decide) ?_
      obtain rfl := Option.some.inj h
      exact W.iret (v := q6) hx hb hr (fun t ht hW => ⟨⟨_, (), rfl, rfl, by rw [ht]; exact hP, hD⟩, hS.F ht⟩) hS.2.2 dX1_sizeOf_31
set_option maxHeartbeats 8000000 in
set_option maxRecDepth 100000 in
theorem kX1_firstOf (l : Launch) (D : va_G) (cI cC cS : ClassId) (aM : Nat × Nat × Nat) (vM0 : (Nat → Int32)) (vM1 : (Nat → Int32)) (vM2 : Int32) (i1 : Int32) (i2 : Int32) (sz : Nat) {q : Int32} (h : pX1_firstOf vM0 vM1 vM2 i1 i2 = some q) : kMi l yX1_firstOf wsX1_firstOf ({ frames := 2, cells := 0, slots := 0, locals := 43 } : Room) D (kTy cI cC cS) [.ref aM.1, .int i1, .int i2] (wMP cI aM vM0 vM1 vM2) sz q (wMP cI aM vM0 vM1 vM2) := by
  refine Met.ofW (cc := cX1_firstOf) (maxL := 5) (ret := (some .int)) (by decide) rfl ?_
  intro p e s m args below meth c s₁ B hml hv
  obtain ⟨rfl, hsz, hP, hK, hD0, hN⟩ := hv
  have hx := B.exec
  have hb := B.bytes
  have hr := B.returns
  have hts := atoms_spec (ws := wsX1_firstOf) B.pre
  have hown : s.vm.findClass RX1 = some m.cls := findClass_of_methodNamed B.named
  have hlocks := B.notSynchronized
  subst hsz
  have hD := hD0.self (sz := s.heap.size)
  generalize hAe : va_A (wMP cI aM vM0 vM1 vM2) s.heap.size = A at hD ⊢
  have hA : ∀ q : Nat, s.heap.size ≤ q → A q := fun q h => by rw [← hAe]; exact Or.inr h
  have hS : va_S A s.heap s.heap [] := va_S.rf
  have huX1 : ∀ w ∈ u_ws RX1 TX1 3, w ∈ wsX1_firstOf := by decide +kernel
  have hl := lv_entry ([.ref aM.1, .int i1, .int i2]) (n := 5) (Nat.le_of_ble_eq_true rfl)
  rw [lg_entry_eq]
  generalize (lg_sl ([.ref aM.1, .int i1, .int i2]) ++ List.replicate (5 - (lg_sl ([.ref aM.1, .int i1, .int i2])).length) Slot.unset).toArray = ls at hl ⊢
  have hl : lv_has ls 5 [(0, .ref aM.1), (1, .int i1), (2, .int i2)] := hl
  have L5 : ∀ (nL5 : Nat) (y1 : Int32) (y2 : Int32) (y3 : Int32) (y4 : Int32) (H : Heap) (locs : List Loc) (ls : Array Slot), pX1_firstOf_L5 vM0 vM1 vM2 nL5 y1 y2 y3 y4 = some q → va_P D vwCl (wMP cI aM vM0 vM1 vM2) H → va_S A s.heap H locs → lv_has ls 5 [(0, .ref aM.1), (1, .int y1), (2, .int y2), (3, .int y3), (4, .int y4)] → W p l e ({ frames := 2, cells := 0, slots := 0, locals := 43 } : Room) s m ([.ref aM.1, .int i1, .int i2] : List Value).toArray below meth c H locs 0 0 (MQ below (va_Qi (fun (r : Int32) (_ : Unit) => r = q) (fun _ => kPost D (wMP cI aM vM0 vM1 vM2) A) A) ([.ref aM.1, .int i1, .int i2] : List Value).toArray s 0 0 A) (F0 m 5 ls []) := by
    clear h hP hS hl
    intro nL5
    induction nL5 with
    | zero => intro y1 y2 y3 y4 H locs ls h; have h : (none : Option (Int32)) = some q := h; cases h
    | succ nL5 ihL5 =>
      intro y1 y2 y3 y4 H locs ls h hP hS hl
      have h : pX1_firstOf_bL5 vM0 vM1 vM2 (pX1_firstOf_L5 vM0 vM1 vM2 nL5) y1 y2 y3 y4 = some q := h
      unfold pX1_firstOf_bL5 at h
      refine lv_iload hx hb dX1_firstOf_5 (lv_at hl 4 rfl) ?_
      refine lv_iload_n hx hb dX1_firstOf_7 rfl (lv_at hl 1 rfl) ?_
      refine lv_icmp_ge (tgt := 36) hx hb dX1_firstOf_8 (by decide) (fun g => ?_) (fun g => ?_)
      · rw [if_pos g] at h
        refine lv_iload_n hx hb dX1_firstOf_36 rfl (lv_at hl 3 rfl) ?_
        obtain rfl := Option.some.inj h
        exact W.iret (v := y3) hx hb hr (fun t ht hW => ⟨⟨_, (), rfl, rfl, by rw [ht]; exact hP, hD⟩, hS.F ht⟩) hS.2.2 dX1_firstOf_37
      · rw [if_neg g] at h
        refine lv_iload hx hb dX1_firstOf_11 (lv_at hl 4 rfl) ?_
        refine lv_aload_n hx hb dX1_firstOf_13 rfl (lv_at hl 0 rfl) ?_
        refine va_get (D := D) (ci := 1) (v := .int vM2) (C := RX1) (T := TX1) (N := 3) hx hb hts huX1 hown hK hP 0 rfl rfl 2 (by decide) (hts (.fieldLink RX1 22 "VerseColumns$GroupMap" "groups" "I") (by decide +kernel)) (fun _ h9 => h9) rfl dX1_firstOf_14 ?_
        refine lv_icmp_ge (tgt := 36) hx hb dX1_firstOf_17 (by decide) (fun g => ?_) (fun g => ?_)
        · rw [if_pos g] at h
          refine lv_iload_n hx hb dX1_firstOf_36 rfl (lv_at hl 3 rfl) ?_
          obtain rfl := Option.some.inj h
          exact W.iret (v := y3) hx hb hr (fun t ht hW => ⟨⟨_, (), rfl, rfl, by rw [ht]; exact hP, hD⟩, hS.F ht⟩) hS.2.2 dX1_firstOf_37
        · rw [if_neg g] at h
          refine lv_iload_n hx hb dX1_firstOf_20 rfl (lv_at hl 3 rfl) ?_
          refine lv_aload_n hx hb dX1_firstOf_21 rfl (lv_at hl 0 rfl) ?_
          refine lv_iload hx hb dX1_firstOf_22 (lv_at hl 4 rfl) ?_
          refine lv_iload_n hx hb dX1_firstOf_24 rfl (lv_at hl 2 rfl) ?_
          obtain ⟨q2, h1, h⟩ := Option.bind_eq_some_iff.mp h
          refine kcir [0, 1, 2] (va_runV (As := [.int y4, .int y2]) (rest := [.int y3]) ⟨hx, hb, hml, hown, hts⟩ (kX1_sizeOf l D cI cC cS aM vM0 vM1 vM2 y4 y2 H.size h1) (cwV 2 hts gX1_firstOf_X1_sizeOf rfl rfl rfl (by decide +kernel) ⟨Nat.le_of_ble_eq_true rfl, Nat.le_of_ble_eq_true rfl⟩) (kpreV hK hN hP hD [0, 1, 2] rfl (by decide) 1 rfl rfl) rfl rfl hl.1 rfl (lv_room (Nat.le_of_ble_eq_true rfl)) dX1_firstOf_25 ⟨Nat.le_refl _, Nat.le_refl _⟩) hP hD hS hA rfl (fun H locs hP hS => ?_)
          refine lv_iadd hx hb dX1_firstOf_28 ?_
          refine lv_istore_n (lv' := [(3, .int (y3 + q2)), (0, .ref aM.1), (1, .int y1), (2, .int y2), (4, .int y4)]) hx hb dX1_firstOf_29 rfl hl (by decide) rfl (fun ls hl => ?_)
          refine lv_iinc (v := (y4 + (1 : Int32))) (lv' := [(4, .int (y4 + (1 : Int32))), (3, .int (y3 + q2)), (0, .ref aM.1), (1, .int y1), (2, .int y2)]) hx hb dX1_firstOf_30 hl (k := 4) rfl rfl (by decide) rfl (fun ls hl => ?_)
          refine lv_goto (tgt := 5) hx hb dX1_firstOf_33 (by decide) ?_
          exact ihL5 y1 y2 (y3 + q2) (y4 + (1 : Int32)) _ _ _ h hP hS (lv_sub hl [2, 3, 4, 1, 0] rfl)
  unfold pX1_firstOf at h
  refine lv_iconst (v := (0 : Int32)) hx hb dX1_firstOf_0 (by decide) ?_
  refine lv_istore_n (lv' := [(3, .int (0 : Int32)), (0, .ref aM.1), (1, .int i1), (2, .int i2)]) hx hb dX1_firstOf_1 rfl hl (by decide) rfl (fun ls hl => ?_)
  refine lv_iconst (v := (0 : Int32)) hx hb dX1_firstOf_2 (by decide) ?_
  refine lv_istore (lv' := [(4, .int (0 : Int32)), (3, .int (0 : Int32)), (0, .ref aM.1), (1, .int i1), (2, .int i2)]) hx hb dX1_firstOf_3 hl (by decide) rfl (fun ls hl => ?_)
  exact L5 4000 i1 i2 (0 : Int32) (0 : Int32) _ _ _ h hP hS (lv_sub hl [2, 3, 4, 1, 0] rfl)
set_option maxHeartbeats 8000000 in
set_option maxRecDepth 100000 in
theorem kX1_groupOf (l : Launch) (D : va_G) (cI cC cS : ClassId) (aM : Nat × Nat × Nat) (vM0 : (Nat → Int32)) (vM1 : (Nat → Int32)) (vM2 : Int32) (i1 : Int32) (i2 : Int32) (sz : Nat) {q : Int32} (h : pX1_groupOf vM0 vM1 vM2 i1 i2 = some q) : kMi l yX1_groupOf wsX1_groupOf ({ frames := 2, cells := 0, slots := 0, locals := 43 } : Room) D (kTy cI cC cS) [.ref aM.1, .int i1, .int i2] (wMP cI aM vM0 vM1 vM2) sz q (wMP cI aM vM0 vM1 vM2) := by
  refine Met.ofW (cc := cX1_groupOf) (maxL := 5) (ret := (some .int)) (by decide) rfl ?_
  intro p e s m args below meth c s₁ B hml hv
  obtain ⟨rfl, hsz, hP, hK, hD0, hN⟩ := hv
  have hx := B.exec
  have hb := B.bytes
  have hr := B.returns
  have hts := atoms_spec (ws := wsX1_groupOf) B.pre
  have hown : s.vm.findClass RX1 = some m.cls := findClass_of_methodNamed B.named
  have hlocks := B.notSynchronized
  subst hsz
  have hD := hD0.self (sz := s.heap.size)
  generalize hAe : va_A (wMP cI aM vM0 vM1 vM2) s.heap.size = A at hD ⊢
  have hA : ∀ q : Nat, s.heap.size ≤ q → A q := fun q h => by rw [← hAe]; exact Or.inr h
  have hS : va_S A s.heap s.heap [] := va_S.rf
  have huX1 : ∀ w ∈ u_ws RX1 TX1 3, w ∈ wsX1_groupOf := by decide +kernel
  have hl := lv_entry ([.ref aM.1, .int i1, .int i2]) (n := 5) (Nat.le_of_ble_eq_true rfl)
  rw [lg_entry_eq]
  generalize (lg_sl ([.ref aM.1, .int i1, .int i2]) ++ List.replicate (5 - (lg_sl ([.ref aM.1, .int i1, .int i2])).length) Slot.unset).toArray = ls at hl ⊢
  have hl : lv_has ls 5 [(0, .ref aM.1), (1, .int i1), (2, .int i2)] := hl
  have L5 : ∀ (nL5 : Nat) (y1 : Int32) (y2 : Int32) (y3 : Int32) (y4 : Int32) (H : Heap) (locs : List Loc) (ls : Array Slot), pX1_groupOf_L5 vM0 vM1 vM2 nL5 y1 y2 y3 y4 = some q → va_P D vwCl (wMP cI aM vM0 vM1 vM2) H → va_S A s.heap H locs → lv_has ls 5 [(0, .ref aM.1), (1, .int y1), (2, .int y2), (3, .int y3), (4, .int y4)] → W p l e ({ frames := 2, cells := 0, slots := 0, locals := 43 } : Room) s m ([.ref aM.1, .int i1, .int i2] : List Value).toArray below meth c H locs 0 0 (MQ below (va_Qi (fun (r : Int32) (_ : Unit) => r = q) (fun _ => kPost D (wMP cI aM vM0 vM1 vM2) A) A) ([.ref aM.1, .int i1, .int i2] : List Value).toArray s 0 0 A) (F0 m 5 ls []) := by
    clear h hP hS hl
    intro nL5
    induction nL5 with
    | zero => intro y1 y2 y3 y4 H locs ls h; have h : (none : Option (Int32)) = some q := h; cases h
    | succ nL5 ihL5 =>
      intro y1 y2 y3 y4 H locs ls h hP hS hl
      have h : pX1_groupOf_bL5 vM0 vM1 vM2 (pX1_groupOf_L5 vM0 vM1 vM2 nL5) y1 y2 y3 y4 = some q := h
      unfold pX1_groupOf_bL5 at h
      refine lv_iload hx hb dX1_groupOf_5 (lv_at hl 4 rfl) ?_
      refine lv_aload_n hx hb dX1_groupOf_7 rfl (lv_at hl 0 rfl) ?_
      refine va_get (D := D) (ci := 1) (v := .int vM2) (C := RX1) (T := TX1) (N := 3) hx hb hts huX1 hown hK hP 0 rfl rfl 2 (by decide) (hts (.fieldLink RX1 22 "VerseColumns$GroupMap" "groups" "I") (by decide +kernel)) (fun _ h9 => h9) rfl dX1_groupOf_8 ?_
      refine lv_icmp_ge (tgt := 38) hx hb dX1_groupOf_11 (by decide) (fun g => ?_) (fun g => ?_)
      · rw [if_pos g] at h
        refine lv_iconst (v := (-1 : Int32)) hx hb dX1_groupOf_38 (by decide) ?_
        obtain rfl := Option.some.inj h
        exact W.iret (v := (-1 : Int32)) hx hb hr (fun t ht hW => ⟨⟨_, (), rfl, rfl, by rw [ht]; exact hP, hD⟩, hS.F ht⟩) hS.2.2 dX1_groupOf_39
      · rw [if_neg g] at h
        refine lv_iload_n hx hb dX1_groupOf_14 rfl (lv_at hl 3 rfl) ?_
        refine lv_aload_n hx hb dX1_groupOf_15 rfl (lv_at hl 0 rfl) ?_
        refine lv_iload hx hb dX1_groupOf_16 (lv_at hl 4 rfl) ?_
        refine lv_iload_n hx hb dX1_groupOf_18 rfl (lv_at hl 1 rfl) ?_
        obtain ⟨q2, h1, h⟩ := Option.bind_eq_some_iff.mp h
        refine kcir [0, 1, 2] (va_runV (As := [.int y4, .int y1]) (rest := [.int y3]) ⟨hx, hb, hml, hown, hts⟩ (kX1_sizeOf l D cI cC cS aM vM0 vM1 vM2 y4 y1 H.size h1) (cwV 2 hts gX1_groupOf_X1_sizeOf rfl rfl rfl (by decide +kernel) ⟨Nat.le_of_ble_eq_true rfl, Nat.le_of_ble_eq_true rfl⟩) (kpreV hK hN hP hD [0, 1, 2] rfl (by decide) 1 rfl rfl) rfl rfl hl.1 rfl (lv_room (Nat.le_of_ble_eq_true rfl)) dX1_groupOf_19 ⟨Nat.le_refl _, Nat.le_refl _⟩) hP hD hS hA rfl (fun H locs hP hS => ?_)
        refine lv_iadd hx hb dX1_groupOf_22 ?_
        refine lv_istore_n (lv' := [(3, .int (y3 + q2)), (0, .ref aM.1), (1, .int y1), (2, .int y2), (4, .int y4)]) hx hb dX1_groupOf_23 rfl hl (by decide) rfl (fun ls hl => ?_)
        refine lv_iload_n hx hb dX1_groupOf_24 rfl (lv_at hl 3 rfl) ?_
        refine lv_iload_n hx hb dX1_groupOf_25 rfl (lv_at hl 0 rfl) ?_
        refine lv_icmp_ge (tgt := 32) hx hb dX1_groupOf_26 (by decide) (fun g => ?_) (fun g => ?_)
        · rw [if_pos g] at h
          refine lv_iinc (v := (y4 + (1 : Int32))) (lv' := [(4, .int (y4 + (1 : Int32))), (3, .int (y3 + q2)), (0, .ref aM.1), (1, .int y1), (2, .int y2)]) hx hb dX1_groupOf_32 hl (k := 4) rfl rfl (by decide) rfl (fun ls hl => ?_)
          refine lv_goto (tgt := 5) hx hb dX1_groupOf_35 (by decide) ?_
          exact ihL5 y1 y2 (y3 + q2) (y4 + (1 : Int32)) _ _ _ h hP hS (lv_sub hl [2, 3, 4, 1, 0] rfl)
        · rw [if_neg g] at h
          refine lv_iload hx hb dX1_groupOf_29 (lv_at hl 4 rfl) ?_
          obtain rfl := Option.some.inj h
          exact W.iret (v := y4) hx hb hr (fun t ht hW => ⟨⟨_, (), rfl, rfl, by rw [ht]; exact hP, hD⟩, hS.F ht⟩) hS.2.2 dX1_groupOf_31
  unfold pX1_groupOf at h
  refine lv_iconst (v := (0 : Int32)) hx hb dX1_groupOf_0 (by decide) ?_
  refine lv_istore_n (lv' := [(3, .int (0 : Int32)), (0, .ref aM.1), (1, .int i1), (2, .int i2)]) hx hb dX1_groupOf_1 rfl hl (by decide) rfl (fun ls hl => ?_)
  refine lv_iconst (v := (0 : Int32)) hx hb dX1_groupOf_2 (by decide) ?_
  refine lv_istore (lv' := [(4, .int (0 : Int32)), (3, .int (0 : Int32)), (0, .ref aM.1), (1, .int i1), (2, .int i2)]) hx hb dX1_groupOf_3 hl (by decide) rfl (fun ls hl => ?_)
  exact L5 4000 i1 i2 (0 : Int32) (0 : Int32) _ _ _ h hP hS (lv_sub hl [2, 3, 4, 1, 0] rfl)
set_option maxHeartbeats 8000000 in
set_option maxRecDepth 100000 in
theorem kX1_kindOf (l : Launch) (D : va_G) (cI cC cS : ClassId) (aM : Nat × Nat × Nat) (vM0 : (Nat → Int32)) (vM1 : (Nat → Int32)) (vM2 : Int32) (i1 : Int32) (sz : Nat) {q : Int32} (h : pX1_kindOf vM0 vM1 vM2 i1 = some q) : kMi l yX1_kindOf wsX1_kindOf ({ frames := 2, cells := 0, slots := 0, locals := 43 } : Room) D (kTy cI cC cS) [.ref aM.1, .int i1] (wMP cI aM vM0 vM1 vM2) sz q (wMP cI aM vM0 vM1 vM2) := by
  refine Met.ofW (cc := cX1_kindOf) (maxL := 4) (ret := (some .int)) (by decide) rfl ?_
  intro p e s m args below meth c s₁ B hml hv
  obtain ⟨rfl, hsz, hP, hK, hD0, hN⟩ := hv
  have hx := B.exec
  have hb := B.bytes
  have hr := B.returns
  have hts := atoms_spec (ws := wsX1_kindOf) B.pre
  have hown : s.vm.findClass RX1 = some m.cls := findClass_of_methodNamed B.named
  have hlocks := B.notSynchronized
  subst hsz
  have hD := hD0.self (sz := s.heap.size)
  generalize hAe : va_A (wMP cI aM vM0 vM1 vM2) s.heap.size = A at hD ⊢
  have hA : ∀ q : Nat, s.heap.size ≤ q → A q := fun q h => by rw [← hAe]; exact Or.inr h
  have hS : va_S A s.heap s.heap [] := va_S.rf
  have hl := lv_entry ([.ref aM.1, .int i1]) (n := 4) (Nat.le_of_ble_eq_true rfl)
  rw [lg_entry_eq]
  generalize (lg_sl ([.ref aM.1, .int i1]) ++ List.replicate (4 - (lg_sl ([.ref aM.1, .int i1])).length) Slot.unset).toArray = ls at hl ⊢
  have hl : lv_has ls 4 [(0, .ref aM.1), (1, .int i1)] := hl
  unfold pX1_kindOf at h
  refine lv_aload_n hx hb dX1_kindOf_0 rfl (lv_at hl 0 rfl) ?_
  refine lv_iload_n hx hb dX1_kindOf_1 rfl (lv_at hl 1 rfl) ?_
  refine lv_iconst (v := (0 : Int32)) hx hb dX1_kindOf_2 (by decide) ?_
  obtain ⟨q2, h1, h⟩ := Option.bind_eq_some_iff.mp h
  refine kcir [0, 1, 2] (va_runV (As := [.int i1, .int (0 : Int32)]) (rest := []) ⟨hx, hb, hml, hown, hts⟩ (kX1_sizeOf l D cI cC cS aM vM0 vM1 vM2 i1 (0 : Int32) s.heap.size h1) (cwV 2 hts gX1_kindOf_X1_sizeOf rfl rfl rfl (by decide +kernel) ⟨Nat.le_of_ble_eq_true rfl, Nat.le_of_ble_eq_true rfl⟩) (kpreV hK hN hP hD [0, 1, 2] rfl (by decide) 1 rfl rfl) rfl rfl hl.1 rfl (lv_room (Nat.le_of_ble_eq_true rfl)) dX1_kindOf_3 ⟨Nat.le_refl _, Nat.le_refl _⟩) hP hD hS hA rfl (fun H locs hP hS => ?_)
  refine lv_istore_n (lv' := [(2, .int q2), (0, .ref aM.1), (1, .int i1)]) hx hb dX1_kindOf_6 rfl hl (by decide) rfl (fun ls hl => ?_)
  refine lv_aload_n hx hb dX1_kindOf_7 rfl (lv_at hl 1 rfl) ?_
  refine lv_iload_n hx hb dX1_kindOf_8 rfl (lv_at hl 2 rfl) ?_
  refine lv_iconst (v := (1 : Int32)) hx hb dX1_kindOf_9 (by decide) ?_
  obtain ⟨q4, h3, h⟩ := Option.bind_eq_some_iff.mp h
  refine kcir [0, 1, 2] (va_runV (As := [.int i1, .int (1 : Int32)]) (rest := []) ⟨hx, hb, hml, hown, hts⟩ (kX1_sizeOf l D cI cC cS aM vM0 vM1 vM2 i1 (1 : Int32) H.size h3) (cwV 2 hts gX1_kindOf_X1_sizeOf rfl rfl rfl (by decide +kernel) ⟨Nat.le_of_ble_eq_true rfl, Nat.le_of_ble_eq_true rfl⟩) (kpreV hK hN hP hD [0, 1, 2] rfl (by decide) 1 rfl rfl) rfl rfl hl.1 rfl (lv_room (Nat.le_of_ble_eq_true rfl)) dX1_kindOf_10 ⟨Nat.le_refl _, Nat.le_refl _⟩) hP hD hS hA rfl (fun H locs hP hS => ?_)
  refine lv_istore_n (lv' := [(3, .int q4), (2, .int q2), (0, .ref aM.1), (1, .int i1)]) hx hb dX1_kindOf_13 rfl hl (by decide) rfl (fun ls hl => ?_)
  refine lv_iload_n hx hb dX1_kindOf_14 rfl (lv_at hl 0 rfl) ?_
  refine lv_if_ne (tgt := 20) hx hb dX1_kindOf_15 (by decide) (fun g => ?_) (fun g => ?_)
  · rw [if_neg g] at h
    refine lv_iload_n hx hb dX1_kindOf_20 rfl (lv_at hl 1 rfl) ?_
    refine lv_if_ne (tgt := 26) hx hb dX1_kindOf_21 (by decide) (fun g => ?_) (fun g => ?_)
    · rw [if_neg g] at h
      refine lv_iload_n hx hb dX1_kindOf_26 rfl (lv_at hl 1 rfl) ?_
      refine lv_iconst (v := (1 : Int32)) hx hb dX1_kindOf_27 (by decide) ?_
      refine lv_icmp_ne (tgt := 40) hx hb dX1_kindOf_28 (by decide) (fun g => ?_) (fun g => ?_)
      · rw [if_neg g] at h
        refine lv_iconst (v := (3 : Int32)) hx hb dX1_kindOf_40 (by decide) ?_
        obtain rfl := Option.some.inj h
        exact W.iret (v := (3 : Int32)) hx hb hr (fun t ht hW => ⟨⟨_, (), rfl, rfl, by rw [ht]; exact hP, hD⟩, hS.F ht⟩) hS.2.2 dX1_kindOf_41
      · rw [if_pos g] at h
        refine lv_iload_n hx hb dX1_kindOf_31 rfl (lv_at hl 0 rfl) ?_
        refine lv_iconst (v := (1 : Int32)) hx hb dX1_kindOf_32 (by decide) ?_
        refine lv_icmp_ne (tgt := 40) hx hb dX1_kindOf_33 (by decide) (fun g => ?_) (fun g => ?_)
        · rw [if_neg g] at h
          refine lv_iconst (v := (3 : Int32)) hx hb dX1_kindOf_40 (by decide) ?_
          obtain rfl := Option.some.inj h
          exact W.iret (v := (3 : Int32)) hx hb hr (fun t ht hW => ⟨⟨_, (), rfl, rfl, by rw [ht]; exact hP, hD⟩, hS.F ht⟩) hS.2.2 dX1_kindOf_41
        · rw [if_pos g] at h
          refine lv_iconst (v := (0 : Int32)) hx hb dX1_kindOf_36 (by decide) ?_
          refine lv_goto (tgt := 41) hx hb dX1_kindOf_37 (by decide) ?_
          obtain rfl := Option.some.inj h
          exact W.iret (v := (0 : Int32)) hx hb hr (fun t ht hW => ⟨⟨_, (), rfl, rfl, by rw [ht]; exact hP, hD⟩, hS.F ht⟩) hS.2.2 dX1_kindOf_41
    · rw [if_pos g] at h
      refine lv_iconst (v := (2 : Int32)) hx hb dX1_kindOf_24 (by decide) ?_
      obtain rfl := Option.some.inj h
      exact W.iret (v := (2 : Int32)) hx hb hr (fun t ht hW => ⟨⟨_, (), rfl, rfl, by rw [ht]; exact hP, hD⟩, hS.F ht⟩) hS.2.2 dX1_kindOf_25
  · rw [if_pos g] at h
    refine lv_iconst (v := (1 : Int32)) hx hb dX1_kindOf_18 (by decide) ?_
    obtain rfl := Option.some.inj h
    exact W.iret (v := (1 : Int32)) hx hb hr (fun t ht hW => ⟨⟨_, (), rfl, rfl, by rw [ht]; exact hP, hD⟩, hS.F ht⟩) hS.2.2 dX1_kindOf_19
set_option maxHeartbeats 8000000 in
set_option maxRecDepth 100000 in
theorem kX1_kindTotal (l : Launch) (D : va_G) (cI cC cS : ClassId) (aM : Nat × Nat × Nat) (vM0 : (Nat → Int32)) (vM1 : (Nat → Int32)) (vM2 : Int32) (i1 : Int32) (sz : Nat) {q : Int32} (h : pX1_kindTotal vM0 vM1 vM2 i1 = some q) : kMi l yX1_kindTotal wsX1_kindTotal ({ frames := 3, cells := 0, slots := 0, locals := 66 } : Room) D (kTy cI cC cS) [.ref aM.1, .int i1] (wMP cI aM vM0 vM1 vM2) sz q (wMP cI aM vM0 vM1 vM2) := by
  refine Met.ofW (cc := cX1_kindTotal) (maxL := 4) (ret := (some .int)) (by decide) rfl ?_
  intro p e s m args below meth c s₁ B hml hv
  obtain ⟨rfl, hsz, hP, hK, hD0, hN⟩ := hv
  have hx := B.exec
  have hb := B.bytes
  have hr := B.returns
  have hts := atoms_spec (ws := wsX1_kindTotal) B.pre
  have hown : s.vm.findClass RX1 = some m.cls := findClass_of_methodNamed B.named
  have hlocks := B.notSynchronized
  subst hsz
  have hD := hD0.self (sz := s.heap.size)
  generalize hAe : va_A (wMP cI aM vM0 vM1 vM2) s.heap.size = A at hD ⊢
  have hA : ∀ q : Nat, s.heap.size ≤ q → A q := fun q h => by rw [← hAe]; exact Or.inr h
  have hS : va_S A s.heap s.heap [] := va_S.rf
  have huX1 : ∀ w ∈ u_ws RX1 TX1 3, w ∈ wsX1_kindTotal := by decide +kernel
  have hl := lv_entry ([.ref aM.1, .int i1]) (n := 4) (Nat.le_of_ble_eq_true rfl)
  rw [lg_entry_eq]
  generalize (lg_sl ([.ref aM.1, .int i1]) ++ List.replicate (4 - (lg_sl ([.ref aM.1, .int i1])).length) Slot.unset).toArray = ls at hl ⊢
  have hl : lv_has ls 4 [(0, .ref aM.1), (1, .int i1)] := hl
  have L4 : ∀ (nL4 : Nat) (y1 : Int32) (y2 : Int32) (y3 : Int32) (H : Heap) (locs : List Loc) (ls : Array Slot), pX1_kindTotal_L4 vM0 vM1 vM2 nL4 y1 y2 y3 = some q → va_P D vwCl (wMP cI aM vM0 vM1 vM2) H → va_S A s.heap H locs → lv_has ls 4 [(0, .ref aM.1), (1, .int y1), (2, .int y2), (3, .int y3)] → W p l e ({ frames := 3, cells := 0, slots := 0, locals := 66 } : Room) s m ([.ref aM.1, .int i1] : List Value).toArray below meth c H locs 0 0 (MQ below (va_Qi (fun (r : Int32) (_ : Unit) => r = q) (fun _ => kPost D (wMP cI aM vM0 vM1 vM2) A) A) ([.ref aM.1, .int i1] : List Value).toArray s 0 0 A) (F0 m 4 ls []) := by
    clear h hP hS hl
    intro nL4
    induction nL4 with
    | zero => intro y1 y2 y3 H locs ls h; have h : (none : Option (Int32)) = some q := h; cases h
    | succ nL4 ihL4 =>
      have j27 : ∀ (y1 : Int32) (y3 : Int32) (t0 : Int32) (t1 : Int32) (H : Heap) (locs : List Loc) (ls : Array Slot), pX1_kindTotal_j27 vM0 vM1 vM2 (pX1_kindTotal_L4 vM0 vM1 vM2 nL4) y1 y3 t0 t1 = some q → va_P D vwCl (wMP cI aM vM0 vM1 vM2) H → va_S A s.heap H locs → lv_has ls 4 [(0, .ref aM.1), (1, .int y1), (3, .int y3)] → W p l e ({ frames := 3, cells := 0, slots := 0, locals := 66 } : Room) s m ([.ref aM.1, .int i1] : List Value).toArray below meth c H locs 0 0 (MQ below (va_Qi (fun (r : Int32) (_ : Unit) => r = q) (fun _ => kPost D (wMP cI aM vM0 vM1 vM2) A) A) ([.ref aM.1, .int i1] : List Value).toArray s 0 0 A) (F0 m 27 ls [.int t1, .int t0]) := by
        skip
        intro y1 y3 t0 t1 H locs ls h hP hS hl
        unfold pX1_kindTotal_j27 at h
        refine lv_iadd hx hb dX1_kindTotal_27 ?_
        refine lv_istore_n (lv' := [(2, .int (t0 + t1)), (0, .ref aM.1), (1, .int y1), (3, .int y3)]) hx hb dX1_kindTotal_28 rfl hl (by decide) rfl (fun ls hl => ?_)
        refine lv_iinc (v := (y3 + (1 : Int32))) (lv' := [(3, .int (y3 + (1 : Int32))), (2, .int (t0 + t1)), (0, .ref aM.1), (1, .int y1)]) hx hb dX1_kindTotal_29 hl (k := 3) rfl rfl (by decide) rfl (fun ls hl => ?_)
        refine lv_goto (tgt := 4) hx hb dX1_kindTotal_32 (by decide) ?_
        exact ihL4 y1 (t0 + t1) (y3 + (1 : Int32)) _ _ _ h hP hS (lv_sub hl [2, 3, 1, 0] rfl)
      intro y1 y2 y3 H locs ls h hP hS hl
      have h : pX1_kindTotal_bL4 vM0 vM1 vM2 (pX1_kindTotal_L4 vM0 vM1 vM2 nL4) y1 y2 y3 = some q := h
      unfold pX1_kindTotal_bL4 at h
      refine lv_iload_n hx hb dX1_kindTotal_4 rfl (lv_at hl 3 rfl) ?_
      refine lv_aload_n hx hb dX1_kindTotal_5 rfl (lv_at hl 0 rfl) ?_
      refine va_get (D := D) (ci := 1) (v := .int vM2) (C := RX1) (T := TX1) (N := 3) hx hb hts huX1 hown hK hP 0 rfl rfl 2 (by decide) (hts (.fieldLink RX1 22 "VerseColumns$GroupMap" "groups" "I") (by decide +kernel)) (fun _ h9 => h9) rfl dX1_kindTotal_6 ?_
      refine lv_icmp_ge (tgt := 35) hx hb dX1_kindTotal_9 (by decide) (fun g => ?_) (fun g => ?_)
      · rw [if_pos g] at h
        refine lv_iload_n hx hb dX1_kindTotal_35 rfl (lv_at hl 2 rfl) ?_
        obtain rfl := Option.some.inj h
        exact W.iret (v := y2) hx hb hr (fun t ht hW => ⟨⟨_, (), rfl, rfl, by rw [ht]; exact hP, hD⟩, hS.F ht⟩) hS.2.2 dX1_kindTotal_36
      · rw [if_neg g] at h
        refine lv_iload_n hx hb dX1_kindTotal_12 rfl (lv_at hl 2 rfl) ?_
        refine lv_aload_n hx hb dX1_kindTotal_13 rfl (lv_at hl 0 rfl) ?_
        refine lv_iload_n hx hb dX1_kindTotal_14 rfl (lv_at hl 3 rfl) ?_
        obtain ⟨q2, h1, h⟩ := Option.bind_eq_some_iff.mp h
        refine kcir [0, 1, 2] (va_runV (As := [.int y3]) (rest := [.int y2]) ⟨hx, hb, hml, hown, hts⟩ (kX1_kindOf l D cI cC cS aM vM0 vM1 vM2 y3 H.size h1) (cwV 1 hts gX1_kindTotal_X1_kindOf rfl rfl rfl (by decide +kernel) ⟨Nat.le_of_ble_eq_true rfl, Nat.le_of_ble_eq_true rfl⟩) (kpreV hK hN hP hD [0, 1, 2] rfl (by decide) 1 rfl rfl) rfl rfl hl.1 rfl (lv_room (Nat.le_of_ble_eq_true rfl)) dX1_kindTotal_15 ⟨Nat.le_refl _, Nat.le_refl _⟩) hP hD hS hA rfl (fun H locs hP hS => ?_)
        refine lv_iload_n hx hb dX1_kindTotal_18 rfl (lv_at hl 1 rfl) ?_
        refine lv_icmp_ne (tgt := 26) hx hb dX1_kindTotal_19 (by decide) (fun g => ?_) (fun g => ?_)
        · rw [if_neg g] at h
          refine lv_iconst (v := (0 : Int32)) hx hb dX1_kindTotal_26 (by decide) ?_
          exact j27 y1 y3 y2 (0 : Int32) _ _ _ h hP hS (lv_sub hl [0, 1, 3] rfl)
        · rw [if_pos g] at h
          refine lv_iconst (v := (1 : Int32)) hx hb dX1_kindTotal_22 (by decide) ?_
          refine lv_goto (tgt := 27) hx hb dX1_kindTotal_23 (by decide) ?_
          exact j27 y1 y3 y2 (1 : Int32) _ _ _ h hP hS (lv_sub hl [0, 1, 3] rfl)
  unfold pX1_kindTotal at h
  refine lv_iconst (v := (0 : Int32)) hx hb dX1_kindTotal_0 (by decide) ?_
  refine lv_istore_n (lv' := [(2, .int (0 : Int32)), (0, .ref aM.1), (1, .int i1)]) hx hb dX1_kindTotal_1 rfl hl (by decide) rfl (fun ls hl => ?_)
  refine lv_iconst (v := (0 : Int32)) hx hb dX1_kindTotal_2 (by decide) ?_
  refine lv_istore_n (lv' := [(3, .int (0 : Int32)), (2, .int (0 : Int32)), (0, .ref aM.1), (1, .int i1)]) hx hb dX1_kindTotal_3 rfl hl (by decide) rfl (fun ls hl => ?_)
  exact L4 4000 i1 (0 : Int32) (0 : Int32) _ _ _ h hP hS (lv_sub hl [2, 3, 1, 0] rfl)
set_option maxHeartbeats 8000000 in
set_option maxRecDepth 100000 in
theorem kX1_alikeTotal (l : Launch) (D : va_G) (cI cC cS : ClassId) (aM : Nat × Nat × Nat) (vM0 : (Nat → Int32)) (vM1 : (Nat → Int32)) (vM2 : Int32) (sz : Nat) {q : Int32} (h : pX1_alikeTotal vM0 vM1 vM2 = some q) : kMi l yX1_alikeTotal wsX1_alikeTotal ({ frames := 2, cells := 0, slots := 0, locals := 43 } : Room) D (kTy cI cC cS) [.ref aM.1] (wMP cI aM vM0 vM1 vM2) sz q (wMP cI aM vM0 vM1 vM2) := by
  refine Met.ofW (cc := cX1_alikeTotal) (maxL := 3) (ret := (some .int)) (by decide) rfl ?_
  intro p e s m args below meth c s₁ B hml hv
  obtain ⟨rfl, hsz, hP, hK, hD0, hN⟩ := hv
  have hx := B.exec
  have hb := B.bytes
  have hr := B.returns
  have hts := atoms_spec (ws := wsX1_alikeTotal) B.pre
  have hown : s.vm.findClass RX1 = some m.cls := findClass_of_methodNamed B.named
  have hlocks := B.notSynchronized
  subst hsz
  have hD := hD0.self (sz := s.heap.size)
  generalize hAe : va_A (wMP cI aM vM0 vM1 vM2) s.heap.size = A at hD ⊢
  have hA : ∀ q : Nat, s.heap.size ≤ q → A q := fun q h => by rw [← hAe]; exact Or.inr h
  have hS : va_S A s.heap s.heap [] := va_S.rf
  have huX1 : ∀ w ∈ u_ws RX1 TX1 3, w ∈ wsX1_alikeTotal := by decide +kernel
  have hl := lv_entry ([.ref aM.1]) (n := 3) (Nat.le_of_ble_eq_true rfl)
  rw [lg_entry_eq]
  generalize (lg_sl ([.ref aM.1]) ++ List.replicate (3 - (lg_sl ([.ref aM.1])).length) Slot.unset).toArray = ls at hl ⊢
  have hl : lv_has ls 3 [(0, .ref aM.1)] := hl
  have L4 : ∀ (nL4 : Nat) (y1 : Int32) (y2 : Int32) (H : Heap) (locs : List Loc) (ls : Array Slot), pX1_alikeTotal_L4 vM0 vM1 vM2 nL4 y1 y2 = some q → va_P D vwCl (wMP cI aM vM0 vM1 vM2) H → va_S A s.heap H locs → lv_has ls 3 [(0, .ref aM.1), (1, .int y1), (2, .int y2)] → W p l e ({ frames := 2, cells := 0, slots := 0, locals := 43 } : Room) s m ([.ref aM.1] : List Value).toArray below meth c H locs 0 0 (MQ below (va_Qi (fun (r : Int32) (_ : Unit) => r = q) (fun _ => kPost D (wMP cI aM vM0 vM1 vM2) A) A) ([.ref aM.1] : List Value).toArray s 0 0 A) (F0 m 4 ls []) := by
    clear h hP hS hl
    intro nL4
    induction nL4 with
    | zero => intro y1 y2 H locs ls h; have h : (none : Option (Int32)) = some q := h; cases h
    | succ nL4 ihL4 =>
      have j33 : ∀ (y2 : Int32) (t0 : Int32) (t1 : Int32) (H : Heap) (locs : List Loc) (ls : Array Slot), pX1_alikeTotal_j33 vM0 vM1 vM2 (pX1_alikeTotal_L4 vM0 vM1 vM2 nL4) y2 t0 t1 = some q → va_P D vwCl (wMP cI aM vM0 vM1 vM2) H → va_S A s.heap H locs → lv_has ls 3 [(0, .ref aM.1), (2, .int y2)] → W p l e ({ frames := 2, cells := 0, slots := 0, locals := 43 } : Room) s m ([.ref aM.1] : List Value).toArray below meth c H locs 0 0 (MQ below (va_Qi (fun (r : Int32) (_ : Unit) => r = q) (fun _ => kPost D (wMP cI aM vM0 vM1 vM2) A) A) ([.ref aM.1] : List Value).toArray s 0 0 A) (F0 m 33 ls [.int t1, .int t0]) := by
        skip
        intro y2 t0 t1 H locs ls h hP hS hl
        unfold pX1_alikeTotal_j33 at h
        refine lv_iadd hx hb dX1_alikeTotal_33 ?_
        refine lv_istore_n (lv' := [(1, .int (t0 + t1)), (0, .ref aM.1), (2, .int y2)]) hx hb dX1_alikeTotal_34 rfl hl (by decide) rfl (fun ls hl => ?_)
        refine lv_iinc (v := (y2 + (1 : Int32))) (lv' := [(2, .int (y2 + (1 : Int32))), (1, .int (t0 + t1)), (0, .ref aM.1)]) hx hb dX1_alikeTotal_35 hl (k := 2) rfl rfl (by decide) rfl (fun ls hl => ?_)
        refine lv_goto (tgt := 4) hx hb dX1_alikeTotal_38 (by decide) ?_
        exact ihL4 (t0 + t1) (y2 + (1 : Int32)) _ _ _ h hP hS (lv_sub hl [2, 1, 0] rfl)
      intro y1 y2 H locs ls h hP hS hl
      have h : pX1_alikeTotal_bL4 vM0 vM1 vM2 (pX1_alikeTotal_L4 vM0 vM1 vM2 nL4) y1 y2 = some q := h
      unfold pX1_alikeTotal_bL4 at h
      refine lv_iload_n hx hb dX1_alikeTotal_4 rfl (lv_at hl 2 rfl) ?_
      refine lv_aload_n hx hb dX1_alikeTotal_5 rfl (lv_at hl 0 rfl) ?_
      refine va_get (D := D) (ci := 1) (v := .int vM2) (C := RX1) (T := TX1) (N := 3) hx hb hts huX1 hown hK hP 0 rfl rfl 2 (by decide) (hts (.fieldLink RX1 22 "VerseColumns$GroupMap" "groups" "I") (by decide +kernel)) (fun _ h9 => h9) rfl dX1_alikeTotal_6 ?_
      refine lv_icmp_ge (tgt := 41) hx hb dX1_alikeTotal_9 (by decide) (fun g => ?_) (fun g => ?_)
      · rw [if_pos g] at h
        refine lv_iload_n hx hb dX1_alikeTotal_41 rfl (lv_at hl 1 rfl) ?_
        obtain rfl := Option.some.inj h
        exact W.iret (v := y1) hx hb hr (fun t ht hW => ⟨⟨_, (), rfl, rfl, by rw [ht]; exact hP, hD⟩, hS.F ht⟩) hS.2.2 dX1_alikeTotal_42
      · rw [if_neg g] at h
        refine lv_iload_n hx hb dX1_alikeTotal_12 rfl (lv_at hl 1 rfl) ?_
        refine lv_aload_n hx hb dX1_alikeTotal_13 rfl (lv_at hl 0 rfl) ?_
        refine lv_iload_n hx hb dX1_alikeTotal_14 rfl (lv_at hl 2 rfl) ?_
        refine lv_iconst (v := (0 : Int32)) hx hb dX1_alikeTotal_15 (by decide) ?_
        obtain ⟨q2, h1, h⟩ := Option.bind_eq_some_iff.mp h
        refine kcir [0, 1, 2] (va_runV (As := [.int y2, .int (0 : Int32)]) (rest := [.int y1]) ⟨hx, hb, hml, hown, hts⟩ (kX1_sizeOf l D cI cC cS aM vM0 vM1 vM2 y2 (0 : Int32) H.size h1) (cwV 2 hts gX1_alikeTotal_X1_sizeOf rfl rfl rfl (by decide +kernel) ⟨Nat.le_of_ble_eq_true rfl, Nat.le_of_ble_eq_true rfl⟩) (kpreV hK hN hP hD [0, 1, 2] rfl (by decide) 1 rfl rfl) rfl rfl hl.1 rfl (lv_room (Nat.le_of_ble_eq_true rfl)) dX1_alikeTotal_16 ⟨Nat.le_refl _, Nat.le_refl _⟩) hP hD hS hA rfl (fun H locs hP hS => ?_)
        refine lv_aload_n hx hb dX1_alikeTotal_19 rfl (lv_at hl 0 rfl) ?_
        refine lv_iload_n hx hb dX1_alikeTotal_20 rfl (lv_at hl 2 rfl) ?_
        refine lv_iconst (v := (1 : Int32)) hx hb dX1_alikeTotal_21 (by decide) ?_
        obtain ⟨q4, h3, h⟩ := Option.bind_eq_some_iff.mp h
        refine kcir [0, 1, 2] (va_runV (As := [.int y2, .int (1 : Int32)]) (rest := [.int q2, .int y1]) ⟨hx, hb, hml, hown, hts⟩ (kX1_sizeOf l D cI cC cS aM vM0 vM1 vM2 y2 (1 : Int32) H.size h3) (cwV 2 hts gX1_alikeTotal_X1_sizeOf rfl rfl rfl (by decide +kernel) ⟨Nat.le_of_ble_eq_true rfl, Nat.le_of_ble_eq_true rfl⟩) (kpreV hK hN hP hD [0, 1, 2] rfl (by decide) 1 rfl rfl) rfl rfl hl.1 rfl (lv_room (Nat.le_of_ble_eq_true rfl)) dX1_alikeTotal_22 ⟨Nat.le_refl _, Nat.le_refl _⟩) hP hD hS hA rfl (fun H locs hP hS => ?_)
        refine lv_icmp_ne (tgt := 32) hx hb dX1_alikeTotal_25 (by decide) (fun g => ?_) (fun g => ?_)
        · rw [if_neg g] at h
          refine lv_iconst (v := (0 : Int32)) hx hb dX1_alikeTotal_32 (by decide) ?_
          exact j33 y2 y1 (0 : Int32) _ _ _ h hP hS (lv_sub hl [0, 2] rfl)
        · rw [if_pos g] at h
          refine lv_iconst (v := (1 : Int32)) hx hb dX1_alikeTotal_28 (by decide) ?_
          refine lv_goto (tgt := 33) hx hb dX1_alikeTotal_29 (by decide) ?_
          exact j33 y2 y1 (1 : Int32) _ _ _ h hP hS (lv_sub hl [0, 2] rfl)
  unfold pX1_alikeTotal at h
  refine lv_iconst (v := (0 : Int32)) hx hb dX1_alikeTotal_0 (by decide) ?_
  refine lv_istore_n (lv' := [(1, .int (0 : Int32)), (0, .ref aM.1)]) hx hb dX1_alikeTotal_1 rfl hl (by decide) rfl (fun ls hl => ?_)
  refine lv_iconst (v := (0 : Int32)) hx hb dX1_alikeTotal_2 (by decide) ?_
  refine lv_istore_n (lv' := [(2, .int (0 : Int32)), (1, .int (0 : Int32)), (0, .ref aM.1)]) hx hb dX1_alikeTotal_3 rfl hl (by decide) rfl (fun ls hl => ?_)
  exact L4 4000 (0 : Int32) (0 : Int32) _ _ _ h hP hS (lv_sub hl [2, 1, 0] rfl)
set_option maxHeartbeats 8000000 in
set_option maxRecDepth 100000 in
theorem kX1_put (l : Launch) (D : va_G) (cI cC cS : ClassId) (aM : Nat × Nat × Nat) (vM0 : (Nat → Int32)) (vM1 : (Nat → Int32)) (vM2 : Int32) (i1 : Int32) (i2 : Int32) (i3 : Int32) (sz : Nat) {q : (Nat → Int32) × (Nat → Int32)} (h : pX1_put vM0 vM1 vM2 i1 i2 i3 = some q) : kMv l yX1_put wsX1_put ({ frames := 1, cells := 0, slots := 0, locals := 21 } : Room) D (kTy cI cC cS) [.ref aM.1, .int i1, .int i2, .int i3] (wMP cI aM vM0 vM1 vM2) sz (wMP cI aM q.1 q.2 vM2) := by
  refine Met.ofW (cc := cX1_put) (maxL := 4) (ret := none) (by decide) rfl ?_
  intro p e s m args below meth c s₁ B hml hv
  obtain ⟨rfl, hsz, hP, hK, hD0, hN⟩ := hv
  have hx := B.exec
  have hb := B.bytes
  have hr := B.returns
  have hts := atoms_spec (ws := wsX1_put) B.pre
  have hown : s.vm.findClass RX1 = some m.cls := findClass_of_methodNamed B.named
  have hlocks := B.notSynchronized
  subst hsz
  have hD := hD0.self (sz := s.heap.size)
  generalize hAe : va_A (wMP cI aM vM0 vM1 vM2) s.heap.size = A at hD ⊢
  have hA : ∀ q : Nat, s.heap.size ≤ q → A q := fun q h => by rw [← hAe]; exact Or.inr h
  have hS : va_S A s.heap s.heap [] := va_S.rf
  have huX1 : ∀ w ∈ u_ws RX1 TX1 3, w ∈ wsX1_put := by decide +kernel
  have hl := lv_entry ([.ref aM.1, .int i1, .int i2, .int i3]) (n := 4) (Nat.le_of_ble_eq_true rfl)
  rw [lg_entry_eq]
  generalize (lg_sl ([.ref aM.1, .int i1, .int i2, .int i3]) ++ List.replicate (4 - (lg_sl ([.ref aM.1, .int i1, .int i2, .int i3])).length) Slot.unset).toArray = ls at hl ⊢
  have hl : lv_has ls 4 [(0, .ref aM.1), (1, .int i1), (2, .int i2), (3, .int i3)] := hl
  unfold pX1_put at h
  refine lv_aload_n hx hb dX1_put_0 rfl (lv_at hl 0 rfl) ?_
  refine lv_iload_n hx hb dX1_put_1 rfl (lv_at hl 1 rfl) ?_
  obtain ⟨q2, h1, h⟩ := Option.bind_eq_some_iff.mp h
  refine kcir [0, 1, 2] (va_runV (As := [.int i1]) (rest := []) ⟨hx, hb, hml, hown, hts⟩ (kX1_has l D cI cC cS aM vM0 vM1 vM2 i1 s.heap.size h1) (cwV 1 hts gX1_put_X1_has rfl rfl rfl (by decide +kernel) ⟨Nat.le_of_ble_eq_true rfl, Nat.le_of_ble_eq_true rfl⟩) (kpreV hK hN hP hD [0, 1, 2] rfl (by decide) 1 rfl rfl) rfl rfl hl.1 rfl (lv_room (Nat.le_of_ble_eq_true rfl)) dX1_put_2 ⟨Nat.le_refl _, Nat.le_refl _⟩) hP hD hS hA rfl (fun H locs hP hS => ?_)
  refine lv_if_eq (tgt := 28) hx hb dX1_put_5 (by decide) (fun g => ?_) (fun g => ?_)
  · rw [if_pos g] at h
    obtain rfl := Option.some.inj h
    exact W.vret hx hb hr (fun t ht hW => ⟨⟨(), rfl, trivial, by rw [ht]; exact hP, hD⟩, hS.F ht⟩) hS.2.2 dX1_put_28
  · rw [if_neg g] at h
    refine lv_iload_n hx hb dX1_put_8 rfl (lv_at hl 1 rfl) ?_
    refine lv_bipush (v := (120 : Int32)) hx hb dX1_put_9 (by decide) ?_
    refine lv_icmp_ge (tgt := 28) hx hb dX1_put_11 (by decide) (fun g => ?_) (fun g => ?_)
    · rw [if_pos g] at h
      obtain rfl := Option.some.inj h
      exact W.vret hx hb hr (fun t ht hW => ⟨⟨(), rfl, trivial, by rw [ht]; exact hP, hD⟩, hS.F ht⟩) hS.2.2 dX1_put_28
    · rw [if_neg g] at h
      refine lv_aload_n hx hb dX1_put_14 rfl (lv_at hl 0 rfl) ?_
      refine va_get (D := D) (ci := 1) (v := .ref aM.2.1) (C := RX1) (T := TX1) (N := 3) hx hb hts huX1 hown hK hP 0 rfl rfl 0 (by decide) (hts (.fieldLink RX1 9 "VerseColumns$GroupMap" "left" "[I") (by decide +kernel)) (fun _ h9 => h9) rfl dX1_put_15 ?_
      refine lv_iload_n hx hb dX1_put_18 rfl (lv_at hl 1 rfl) ?_
      refine lv_iload_n hx hb dX1_put_19 rfl (lv_at hl 2 rfl) ?_
      obtain ⟨g, h⟩ := kif h
      refine va_iast hx hb hK hP hD hS 1 0 rfl rfl (kin g) dX1_put_20 (fun H locs hP hD hS => ?_)
      have hP : va_P D vwCl (wMP cI aM (upd vM0 i1.toNatClampNeg i2) vM1 vM2) H := hP
      have hD : va_D A (wMP cI aM (upd vM0 i1.toNatClampNeg i2) vM1 vM2) := hD
      refine lv_aload_n hx hb dX1_put_21 rfl (lv_at hl 0 rfl) ?_
      refine va_get (D := D) (ci := 1) (v := .ref aM.2.2) (C := RX1) (T := TX1) (N := 3) hx hb hts huX1 hown hK hP 0 rfl rfl 1 (by decide) (hts (.fieldLink RX1 15 "VerseColumns$GroupMap" "right" "[I") (by decide +kernel)) (fun _ h9 => h9) rfl dX1_put_22 ?_
      refine lv_iload_n hx hb dX1_put_25 rfl (lv_at hl 1 rfl) ?_
      refine lv_iload_n hx hb dX1_put_26 rfl (lv_at hl 3 rfl) ?_
      obtain ⟨g, h⟩ := kif h
      refine va_iast hx hb hK hP hD hS 2 0 rfl rfl (kin g) dX1_put_27 (fun H locs hP hD hS => ?_)
      have hP : va_P D vwCl (wMP cI aM (upd vM0 i1.toNatClampNeg i2) (upd vM1 i1.toNatClampNeg i3) vM2) H := hP
      have hD : va_D A (wMP cI aM (upd vM0 i1.toNatClampNeg i2) (upd vM1 i1.toNatClampNeg i3) vM2) := hD
      obtain rfl := Option.some.inj h
      exact W.vret hx hb hr (fun t ht hW => ⟨⟨(), rfl, trivial, by rw [ht]; exact hP, hD⟩, hS.F ht⟩) hS.2.2 dX1_put_28
set_option maxHeartbeats 8000000 in
set_option maxRecDepth 100000 in
theorem kX1_append (l : Launch) (D : va_G) (cI cC cS : ClassId) (aM : Nat × Nat × Nat) (vM0 : (Nat → Int32)) (vM1 : (Nat → Int32)) (vM2 : Int32) (i1 : Int32) (i2 : Int32) (sz : Nat) {q : (Nat → Int32) × (Nat → Int32) × Int32} (h : pX1_append vM0 vM1 vM2 i1 i2 = some q) : kMv l yX1_append wsX1_append ({ frames := 2, cells := 0, slots := 0, locals := 44 } : Room) D (kTy cI cC cS) [.ref aM.1, .int i1, .int i2] (wMP cI aM vM0 vM1 vM2) sz (wMP cI aM q.1 q.2.1 q.2.2) := by
  refine Met.ofW (cc := cX1_append) (maxL := 3) (ret := none) (by decide) rfl ?_
  intro p e s m args below meth c s₁ B hml hv
  obtain ⟨rfl, hsz, hP, hK, hD0, hN⟩ := hv
  have hx := B.exec
  have hb := B.bytes
  have hr := B.returns
  have hts := atoms_spec (ws := wsX1_append) B.pre
  have hown : s.vm.findClass RX1 = some m.cls := findClass_of_methodNamed B.named
  have hlocks := B.notSynchronized
  subst hsz
  have hD := hD0.self (sz := s.heap.size)
  generalize hAe : va_A (wMP cI aM vM0 vM1 vM2) s.heap.size = A at hD ⊢
  have hA : ∀ q : Nat, s.heap.size ≤ q → A q := fun q h => by rw [← hAe]; exact Or.inr h
  have hS : va_S A s.heap s.heap [] := va_S.rf
  have huX1 : ∀ w ∈ u_ws RX1 TX1 3, w ∈ wsX1_append := by decide +kernel
  have hl := lv_entry ([.ref aM.1, .int i1, .int i2]) (n := 3) (Nat.le_of_ble_eq_true rfl)
  rw [lg_entry_eq]
  generalize (lg_sl ([.ref aM.1, .int i1, .int i2]) ++ List.replicate (3 - (lg_sl ([.ref aM.1, .int i1, .int i2])).length) Slot.unset).toArray = ls at hl ⊢
  have hl : lv_has ls 3 [(0, .ref aM.1), (1, .int i1), (2, .int i2)] := hl
  unfold pX1_append at h
  refine lv_aload_n hx hb dX1_append_0 rfl (lv_at hl 0 rfl) ?_
  refine va_get (D := D) (ci := 1) (v := .int vM2) (C := RX1) (T := TX1) (N := 3) hx hb hts huX1 hown hK hP 0 rfl rfl 2 (by decide) (hts (.fieldLink RX1 22 "VerseColumns$GroupMap" "groups" "I") (by decide +kernel)) (fun _ h9 => h9) rfl dX1_append_1 ?_
  refine lv_bipush (v := (120 : Int32)) hx hb dX1_append_4 (by decide) ?_
  refine lv_icmp_ge (tgt := 31) hx hb dX1_append_6 (by decide) (fun g => ?_) (fun g => ?_)
  · rw [if_pos g] at h
    obtain rfl := Option.some.inj h
    exact W.vret hx hb hr (fun t ht hW => ⟨⟨(), rfl, trivial, by rw [ht]; exact hP, hD⟩, hS.F ht⟩) hS.2.2 dX1_append_31
  · rw [if_neg g] at h
    refine lv_aload_n hx hb dX1_append_9 rfl (lv_at hl 0 rfl) ?_
    refine lv_dup hx hb dX1_append_10 rfl ?_
    refine va_get (D := D) (ci := 1) (v := .int vM2) (C := RX1) (T := TX1) (N := 3) hx hb hts huX1 hown hK hP 0 rfl rfl 2 (by decide) (hts (.fieldLink RX1 22 "VerseColumns$GroupMap" "groups" "I") (by decide +kernel)) (fun _ h9 => h9) rfl dX1_append_11 ?_
    refine lv_iconst (v := (1 : Int32)) hx hb dX1_append_14 (by decide) ?_
    refine lv_iadd hx hb dX1_append_15 ?_
    refine va_put (D := D) (ci := 1) (v := .int (vM2 + (1 : Int32))) (ty := .int) (C := RX1) (T := TX1) (N := 3) hx hb hts huX1 tyX1 tyX1_ok nmX1 hown hK hP hD hS 0 rfl rfl 2 (by decide) (hts (.fieldLink RX1 22 "VerseColumns$GroupMap" "groups" "I") (by decide +kernel)) (fun _ h9 => h9) rfl (by decide +kernel) rfl rfl (Nat.le_of_ble_eq_true rfl) dX1_append_16 (fun H locs hP hD hS => ?_)
    have hP : va_P D vwCl (wMP cI aM vM0 vM1 (vM2 + (1 : Int32))) H := hP
    have hD : va_D A (wMP cI aM vM0 vM1 (vM2 + (1 : Int32))) := hD
    refine lv_aload_n hx hb dX1_append_19 rfl (lv_at hl 0 rfl) ?_
    refine lv_aload_n hx hb dX1_append_20 rfl (lv_at hl 0 rfl) ?_
    refine va_get (D := D) (ci := 1) (v := .int (vM2 + (1 : Int32))) (C := RX1) (T := TX1) (N := 3) hx hb hts huX1 hown hK hP 0 rfl rfl 2 (by decide) (hts (.fieldLink RX1 22 "VerseColumns$GroupMap" "groups" "I") (by decide +kernel)) (fun _ h9 => h9) rfl dX1_append_21 ?_
    refine lv_iconst (v := (1 : Int32)) hx hb dX1_append_24 (by decide) ?_
    refine lv_isub hx hb dX1_append_25 ?_
    refine lv_iload_n hx hb dX1_append_26 rfl (lv_at hl 1 rfl) ?_
    refine lv_iload_n hx hb dX1_append_27 rfl (lv_at hl 2 rfl) ?_
    obtain ⟨q2, h1, h⟩ := Option.bind_eq_some_iff.mp h
    refine kcvw (ws' := (wMP cI aM q2.1 q2.2 (vM2 + (1 : Int32)))) [0, 1, 2] (va_runV (As := [.int ((vM2 + (1 : Int32)) - (1 : Int32)), .int i1, .int i2]) (rest := []) ⟨hx, hb, hml, hown, hts⟩ (kX1_put l D cI cC cS aM vM0 vM1 (vM2 + (1 : Int32)) ((vM2 + (1 : Int32)) - (1 : Int32)) i1 i2 H.size h1) (cwV 3 hts gX1_append_X1_put rfl rfl rfl (by decide +kernel) ⟨Nat.le_of_ble_eq_true rfl, Nat.le_of_ble_eq_true rfl⟩) (kpreV hK hN hP hD [0, 1, 2] rfl (by decide) 1 rfl rfl) rfl rfl hl.1 rfl (lv_room (Nat.le_of_ble_eq_true rfl)) dX1_append_28 ⟨Nat.le_refl _, Nat.le_refl _⟩) hP hD hS hA rfl (by decide) rfl [1, 2, 3] (by decide +kernel) rfl (fun H locs hP hD hS => ?_)
    obtain rfl := Option.some.inj h
    exact W.vret hx hb hr (fun t ht hW => ⟨⟨(), rfl, trivial, by rw [ht]; exact hP, hD⟩, hS.F ht⟩) hS.2.2 dX1_append_31
set_option maxHeartbeats 8000000 in
set_option maxRecDepth 100000 in
theorem kX1_resize (l : Launch) (D : va_G) (cI cC cS : ClassId) (aM : Nat × Nat × Nat) (vM0 : (Nat → Int32)) (vM1 : (Nat → Int32)) (vM2 : Int32) (i1 : Int32) (i2 : Int32) (i3 : Int32) (sz : Nat) {q : (Nat → Int32) × (Nat → Int32)} (h : pX1_resize vM0 vM1 vM2 i1 i2 i3 = some q) : kMv l yX1_resize wsX1_resize ({ frames := 2, cells := 0, slots := 0, locals := 44 } : Room) D (kTy cI cC cS) [.ref aM.1, .int i1, .int i2, .int i3] (wMP cI aM vM0 vM1 vM2) sz (wMP cI aM q.1 q.2 vM2) := by
  refine Met.ofW (cc := cX1_resize) (maxL := 6) (ret := none) (by decide) rfl ?_
  intro p e s m args below meth c s₁ B hml hv
  obtain ⟨rfl, hsz, hP, hK, hD0, hN⟩ := hv
  have hx := B.exec
  have hb := B.bytes
  have hr := B.returns
  have hts := atoms_spec (ws := wsX1_resize) B.pre
  have hown : s.vm.findClass RX1 = some m.cls := findClass_of_methodNamed B.named
  have hlocks := B.notSynchronized
  subst hsz
  have hD := hD0.self (sz := s.heap.size)
  generalize hAe : va_A (wMP cI aM vM0 vM1 vM2) s.heap.size = A at hD ⊢
  have hA : ∀ q : Nat, s.heap.size ≤ q → A q := fun q h => by rw [← hAe]; exact Or.inr h
  have hS : va_S A s.heap s.heap [] := va_S.rf
  have hl := lv_entry ([.ref aM.1, .int i1, .int i2, .int i3]) (n := 6) (Nat.le_of_ble_eq_true rfl)
  rw [lg_entry_eq]
  generalize (lg_sl ([.ref aM.1, .int i1, .int i2, .int i3]) ++ List.replicate (6 - (lg_sl ([.ref aM.1, .int i1, .int i2, .int i3])).length) Slot.unset).toArray = ls at hl ⊢
  have hl : lv_has ls 6 [(0, .ref aM.1), (1, .int i1), (2, .int i2), (3, .int i3)] := hl
  have j34 : ∀ (c0_0 : (Nat → Int32)) (c0_1 : (Nat → Int32)) (y1 : Int32) (y4 : Int32) (t0 : Int32) (t1 : Int32) (H : Heap) (locs : List Loc) (ls : Array Slot), pX1_resize_j34 vM2 c0_0 c0_1 y1 y4 t0 t1 = some q → va_P D vwCl (wMP cI aM c0_0 c0_1 vM2) H → va_D A (wMP cI aM c0_0 c0_1 vM2) → va_S A s.heap H locs → lv_has ls 6 [(0, .ref aM.1), (1, .int y1), (4, .int y4)] → W p l e ({ frames := 2, cells := 0, slots := 0, locals := 44 } : Room) s m ([.ref aM.1, .int i1, .int i2, .int i3] : List Value).toArray below meth c H locs 0 0 (MQ below (va_Qv (fun (_ : Unit) => True) (fun _ => kPost D (wMP cI aM q.1 q.2 vM2) A) A) ([.ref aM.1, .int i1, .int i2, .int i3] : List Value).toArray s 0 0 A) (F0 m 34 ls [.int t1, .int t0]) := by
    clear h hP hD hS hl
    intro c0_0 c0_1 y1 y4 t0 t1 H locs ls h hP hD hS hl
    unfold pX1_resize_j34 at h
    refine lv_iadd hx hb dX1_resize_34 ?_
    refine lv_istore (lv' := [(5, .int (t0 + t1)), (0, .ref aM.1), (1, .int y1), (4, .int y4)]) hx hb dX1_resize_35 hl (by decide) rfl (fun ls hl => ?_)
    refine lv_aload_n hx hb dX1_resize_37 rfl (lv_at hl 1 rfl) ?_
    refine lv_iload_n hx hb dX1_resize_38 rfl (lv_at hl 2 rfl) ?_
    refine lv_iload hx hb dX1_resize_39 (lv_at hl 3 rfl) ?_
    refine lv_iload hx hb dX1_resize_41 (lv_at hl 0 rfl) ?_
    obtain ⟨q6, h5, h⟩ := Option.bind_eq_some_iff.mp h
    refine kcvw (ws' := (wMP cI aM q6.1 q6.2 vM2)) [0, 1, 2] (va_runV (As := [.int y1, .int y4, .int (t0 + t1)]) (rest := []) ⟨hx, hb, hml, hown, hts⟩ (kX1_put l D cI cC cS aM c0_0 c0_1 vM2 y1 y4 (t0 + t1) H.size h5) (cwV 3 hts gX1_resize_X1_put rfl rfl rfl (by decide +kernel) ⟨Nat.le_of_ble_eq_true rfl, Nat.le_of_ble_eq_true rfl⟩) (kpreV hK hN hP hD [0, 1, 2] rfl (by decide) 1 rfl rfl) rfl rfl hl.1 rfl (lv_room (Nat.le_of_ble_eq_true rfl)) dX1_resize_43 ⟨Nat.le_refl _, Nat.le_refl _⟩) hP hD hS hA rfl (by decide) rfl [1, 2, 3] (by decide +kernel) rfl (fun H locs hP hD hS => ?_)
    obtain rfl := Option.some.inj h
    exact W.vret hx hb hr (fun t ht hW => ⟨⟨(), rfl, trivial, by rw [ht]; exact hP, hD⟩, hS.F ht⟩) hS.2.2 dX1_resize_46
  have j15 : ∀ (c0_0 : (Nat → Int32)) (c0_1 : (Nat → Int32)) (y1 : Int32) (y2 : Int32) (y3 : Int32) (t0 : Int32) (t1 : Int32) (H : Heap) (locs : List Loc) (ls : Array Slot), pX1_resize_j15 vM2 c0_0 c0_1 y1 y2 y3 t0 t1 = some q → va_P D vwCl (wMP cI aM c0_0 c0_1 vM2) H → va_D A (wMP cI aM c0_0 c0_1 vM2) → va_S A s.heap H locs → lv_has ls 6 [(0, .ref aM.1), (1, .int y1), (2, .int y2), (3, .int y3)] → W p l e ({ frames := 2, cells := 0, slots := 0, locals := 44 } : Room) s m ([.ref aM.1, .int i1, .int i2, .int i3] : List Value).toArray below meth c H locs 0 0 (MQ below (va_Qv (fun (_ : Unit) => True) (fun _ => kPost D (wMP cI aM q.1 q.2 vM2) A) A) ([.ref aM.1, .int i1, .int i2, .int i3] : List Value).toArray s 0 0 A) (F0 m 15 ls [.int t1, .int t0]) := by
    clear h hP hD hS hl
    intro c0_0 c0_1 y1 y2 y3 t0 t1 H locs ls h hP hD hS hl
    unfold pX1_resize_j15 at h
    refine lv_iadd hx hb dX1_resize_15 ?_
    refine lv_istore (lv' := [(4, .int (t0 + t1)), (0, .ref aM.1), (1, .int y1), (2, .int y2), (3, .int y3)]) hx hb dX1_resize_16 hl (by decide) rfl (fun ls hl => ?_)
    refine lv_aload_n hx hb dX1_resize_18 rfl (lv_at hl 1 rfl) ?_
    refine lv_iload_n hx hb dX1_resize_19 rfl (lv_at hl 2 rfl) ?_
    refine lv_iconst (v := (1 : Int32)) hx hb dX1_resize_20 (by decide) ?_
    obtain ⟨q4, h3, h⟩ := Option.bind_eq_some_iff.mp h
    refine kcir [0, 1, 2] (va_runV (As := [.int y1, .int (1 : Int32)]) (rest := []) ⟨hx, hb, hml, hown, hts⟩ (kX1_sizeOf l D cI cC cS aM c0_0 c0_1 vM2 y1 (1 : Int32) H.size h3) (cwV 2 hts gX1_resize_X1_sizeOf rfl rfl rfl (by decide +kernel) ⟨Nat.le_of_ble_eq_true rfl, Nat.le_of_ble_eq_true rfl⟩) (kpreV hK hN hP hD [0, 1, 2] rfl (by decide) 1 rfl rfl) rfl rfl hl.1 rfl (lv_room (Nat.le_of_ble_eq_true rfl)) dX1_resize_21 ⟨Nat.le_refl _, Nat.le_refl _⟩) hP hD hS hA rfl (fun H locs hP hS => ?_)
    refine lv_iload_n hx hb dX1_resize_24 rfl (lv_at hl 3 rfl) ?_
    refine lv_iconst (v := (1 : Int32)) hx hb dX1_resize_25 (by decide) ?_
    refine lv_icmp_ne (tgt := 33) hx hb dX1_resize_26 (by decide) (fun g => ?_) (fun g => ?_)
    · rw [if_neg g] at h
      refine lv_iconst (v := (0 : Int32)) hx hb dX1_resize_33 (by decide) ?_
      exact j34 c0_0 c0_1 y1 (t0 + t1) q4 (0 : Int32) _ _ _ h hP hD hS (lv_sub hl [1, 2, 0] rfl)
    · rw [if_pos g] at h
      refine lv_iload_n hx hb dX1_resize_29 rfl (lv_at hl 4 rfl) ?_
      refine lv_goto (tgt := 34) hx hb dX1_resize_30 (by decide) ?_
      exact j34 c0_0 c0_1 y1 (t0 + t1) q4 y3 _ _ _ h hP hD hS (lv_sub hl [1, 2, 0] rfl)
  unfold pX1_resize at h
  refine lv_aload_n hx hb dX1_resize_0 rfl (lv_at hl 0 rfl) ?_
  refine lv_iload_n hx hb dX1_resize_1 rfl (lv_at hl 1 rfl) ?_
  refine lv_iconst (v := (0 : Int32)) hx hb dX1_resize_2 (by decide) ?_
  obtain ⟨q2, h1, h⟩ := Option.bind_eq_some_iff.mp h
  refine kcir [0, 1, 2] (va_runV (As := [.int i1, .int (0 : Int32)]) (rest := []) ⟨hx, hb, hml, hown, hts⟩ (kX1_sizeOf l D cI cC cS aM vM0 vM1 vM2 i1 (0 : Int32) s.heap.size h1) (cwV 2 hts gX1_resize_X1_sizeOf rfl rfl rfl (by decide +kernel) ⟨Nat.le_of_ble_eq_true rfl, Nat.le_of_ble_eq_true rfl⟩) (kpreV hK hN hP hD [0, 1, 2] rfl (by decide) 1 rfl rfl) rfl rfl hl.1 rfl (lv_room (Nat.le_of_ble_eq_true rfl)) dX1_resize_3 ⟨Nat.le_refl _, Nat.le_refl _⟩) hP hD hS hA rfl (fun H locs hP hS => ?_)
  refine lv_iload_n hx hb dX1_resize_6 rfl (lv_at hl 2 rfl) ?_
  refine lv_if_ne (tgt := 14) hx hb dX1_resize_7 (by decide) (fun g => ?_) (fun g => ?_)
  · rw [if_neg g] at h
    refine lv_iconst (v := (0 : Int32)) hx hb dX1_resize_14 (by decide) ?_
    exact j15 vM0 vM1 i1 i2 i3 q2 (0 : Int32) _ _ _ h hP hD hS (lv_sub hl [0, 1, 2, 3] rfl)
  · rw [if_pos g] at h
    refine lv_iload_n hx hb dX1_resize_10 rfl (lv_at hl 3 rfl) ?_
    refine lv_goto (tgt := 15) hx hb dX1_resize_11 (by decide) ?_
    exact j15 vM0 vM1 i1 i2 i3 q2 i3 _ _ _ h hP hD hS (lv_sub hl [0, 1, 2, 3] rfl)
set_option maxHeartbeats 8000000 in
set_option maxRecDepth 100000 in
theorem kX1_merge (l : Launch) (D : va_G) (cI cC cS : ClassId) (aM : Nat × Nat × Nat) (vM0 : (Nat → Int32)) (vM1 : (Nat → Int32)) (vM2 : Int32) (i1 : Int32) (i2 : Int32) (sz : Nat) {q : (Nat → Int32) × (Nat → Int32) × Int32} (h : pX1_merge vM0 vM1 vM2 i1 i2 = some q) : kMv l yX1_merge wsX1_merge ({ frames := 3, cells := 0, slots := 0, locals := 67 } : Room) D (kTy cI cC cS) [.ref aM.1, .int i1, .int i2] (wMP cI aM vM0 vM1 vM2) sz (wMP cI aM q.1 q.2.1 q.2.2) := by
  refine Met.ofW (cc := cX1_merge) (maxL := 5) (ret := none) (by decide) rfl ?_
  intro p e s m args below meth c s₁ B hml hv
  obtain ⟨rfl, hsz, hP, hK, hD0, hN⟩ := hv
  have hx := B.exec
  have hb := B.bytes
  have hr := B.returns
  have hts := atoms_spec (ws := wsX1_merge) B.pre
  have hown : s.vm.findClass RX1 = some m.cls := findClass_of_methodNamed B.named
  have hlocks := B.notSynchronized
  subst hsz
  have hD := hD0.self (sz := s.heap.size)
  generalize hAe : va_A (wMP cI aM vM0 vM1 vM2) s.heap.size = A at hD ⊢
  have hA : ∀ q : Nat, s.heap.size ≤ q → A q := fun q h => by rw [← hAe]; exact Or.inr h
  have hS : va_S A s.heap s.heap [] := va_S.rf
  have huX1 : ∀ w ∈ u_ws RX1 TX1 3, w ∈ wsX1_merge := by decide +kernel
  have hl := lv_entry ([.ref aM.1, .int i1, .int i2]) (n := 5) (Nat.le_of_ble_eq_true rfl)
  rw [lg_entry_eq]
  generalize (lg_sl ([.ref aM.1, .int i1, .int i2]) ++ List.replicate (5 - (lg_sl ([.ref aM.1, .int i1, .int i2])).length) Slot.unset).toArray = ls at hl ⊢
  have hl : lv_has ls 5 [(0, .ref aM.1), (1, .int i1), (2, .int i2)] := hl
  unfold pX1_merge at h
  refine lv_aload_n hx hb dX1_merge_0 rfl (lv_at hl 0 rfl) ?_
  refine lv_iload_n hx hb dX1_merge_1 rfl (lv_at hl 1 rfl) ?_
  obtain ⟨q2, h1, h⟩ := Option.bind_eq_some_iff.mp h
  refine kcir [0, 1, 2] (va_runV (As := [.int i1]) (rest := []) ⟨hx, hb, hml, hown, hts⟩ (kX1_has l D cI cC cS aM vM0 vM1 vM2 i1 s.heap.size h1) (cwV 1 hts gX1_merge_X1_has rfl rfl rfl (by decide +kernel) ⟨Nat.le_of_ble_eq_true rfl, Nat.le_of_ble_eq_true rfl⟩) (kpreV hK hN hP hD [0, 1, 2] rfl (by decide) 1 rfl rfl) rfl rfl hl.1 rfl (lv_room (Nat.le_of_ble_eq_true rfl)) dX1_merge_2 ⟨Nat.le_refl _, Nat.le_refl _⟩) hP hD hS hA rfl (fun H locs hP hS => ?_)
  refine lv_if_eq (tgt := 21) hx hb dX1_merge_5 (by decide) (fun g => ?_) (fun g => ?_)
  · rw [if_pos g] at h
    obtain rfl := Option.some.inj h
    exact W.vret hx hb hr (fun t ht hW => ⟨⟨(), rfl, trivial, by rw [ht]; exact hP, hD⟩, hS.F ht⟩) hS.2.2 dX1_merge_21
  · rw [if_neg g] at h
    refine lv_aload_n hx hb dX1_merge_8 rfl (lv_at hl 0 rfl) ?_
    refine lv_iload_n hx hb dX1_merge_9 rfl (lv_at hl 2 rfl) ?_
    obtain ⟨q4, h3, h⟩ := Option.bind_eq_some_iff.mp h
    refine kcir [0, 1, 2] (va_runV (As := [.int i2]) (rest := []) ⟨hx, hb, hml, hown, hts⟩ (kX1_has l D cI cC cS aM vM0 vM1 vM2 i2 H.size h3) (cwV 1 hts gX1_merge_X1_has rfl rfl rfl (by decide +kernel) ⟨Nat.le_of_ble_eq_true rfl, Nat.le_of_ble_eq_true rfl⟩) (kpreV hK hN hP hD [0, 1, 2] rfl (by decide) 1 rfl rfl) rfl rfl hl.1 rfl (lv_room (Nat.le_of_ble_eq_true rfl)) dX1_merge_10 ⟨Nat.le_refl _, Nat.le_refl _⟩) hP hD hS hA rfl (fun H locs hP hS => ?_)
    refine lv_if_eq (tgt := 21) hx hb dX1_merge_13 (by decide) (fun g => ?_) (fun g => ?_)
    · rw [if_pos g] at h
      obtain rfl := Option.some.inj h
      exact W.vret hx hb hr (fun t ht hW => ⟨⟨(), rfl, trivial, by rw [ht]; exact hP, hD⟩, hS.F ht⟩) hS.2.2 dX1_merge_21
    · rw [if_neg g] at h
      refine lv_iload_n hx hb dX1_merge_16 rfl (lv_at hl 2 rfl) ?_
      refine lv_iload_n hx hb dX1_merge_17 rfl (lv_at hl 1 rfl) ?_
      refine lv_icmp_gt (tgt := 22) hx hb dX1_merge_18 (by decide) (fun g => ?_) (fun g => ?_)
      · rw [if_pos g] at h
        refine lv_aload_n hx hb dX1_merge_22 rfl (lv_at hl 0 rfl) ?_
        refine lv_iload_n hx hb dX1_merge_23 rfl (lv_at hl 2 rfl) ?_
        refine lv_iconst (v := (0 : Int32)) hx hb dX1_merge_24 (by decide) ?_
        obtain ⟨q6, h5, h⟩ := Option.bind_eq_some_iff.mp h
        refine kcir [0, 1, 2] (va_runV (As := [.int i2, .int (0 : Int32)]) (rest := []) ⟨hx, hb, hml, hown, hts⟩ (kX1_firstOf l D cI cC cS aM vM0 vM1 vM2 i2 (0 : Int32) H.size h5) (cwV 2 hts gX1_merge_X1_firstOf rfl rfl rfl (by decide +kernel) ⟨Nat.le_of_ble_eq_true rfl, Nat.le_of_ble_eq_true rfl⟩) (kpreV hK hN hP hD [0, 1, 2] rfl (by decide) 1 rfl rfl) rfl rfl hl.1 rfl (lv_room (Nat.le_of_ble_eq_true rfl)) dX1_merge_25 ⟨Nat.le_refl _, Nat.le_refl _⟩) hP hD hS hA rfl (fun H locs hP hS => ?_)
        refine lv_aload_n hx hb dX1_merge_28 rfl (lv_at hl 0 rfl) ?_
        refine lv_iload_n hx hb dX1_merge_29 rfl (lv_at hl 1 rfl) ?_
        refine lv_iconst (v := (0 : Int32)) hx hb dX1_merge_30 (by decide) ?_
        obtain ⟨q8, h7, h⟩ := Option.bind_eq_some_iff.mp h
        refine kcir [0, 1, 2] (va_runV (As := [.int i1, .int (0 : Int32)]) (rest := [.int q6]) ⟨hx, hb, hml, hown, hts⟩ (kX1_firstOf l D cI cC cS aM vM0 vM1 vM2 i1 (0 : Int32) H.size h7) (cwV 2 hts gX1_merge_X1_firstOf rfl rfl rfl (by decide +kernel) ⟨Nat.le_of_ble_eq_true rfl, Nat.le_of_ble_eq_true rfl⟩) (kpreV hK hN hP hD [0, 1, 2] rfl (by decide) 1 rfl rfl) rfl rfl hl.1 rfl (lv_room (Nat.le_of_ble_eq_true rfl)) dX1_merge_31 ⟨Nat.le_refl _, Nat.le_refl _⟩) hP hD hS hA rfl (fun H locs hP hS => ?_)
        refine lv_isub hx hb dX1_merge_34 ?_
        refine lv_aload_n hx hb dX1_merge_35 rfl (lv_at hl 0 rfl) ?_
        refine lv_iload_n hx hb dX1_merge_36 rfl (lv_at hl 2 rfl) ?_
        refine lv_iconst (v := (0 : Int32)) hx hb dX1_merge_37 (by decide) ?_
        obtain ⟨q10, h9, h⟩ := Option.bind_eq_some_iff.mp h
        refine kcir [0, 1, 2] (va_runV (As := [.int i2, .int (0 : Int32)]) (rest := [.int (q6 - q8)]) ⟨hx, hb, hml, hown, hts⟩ (kX1_sizeOf l D cI cC cS aM vM0 vM1 vM2 i2 (0 : Int32) H.size h9) (cwV 2 hts gX1_merge_X1_sizeOf rfl rfl rfl (by decide +kernel) ⟨Nat.le_of_ble_eq_true rfl, Nat.le_of_ble_eq_true rfl⟩) (kpreV hK hN hP hD [0, 1, 2] rfl (by decide) 1 rfl rfl) rfl rfl hl.1 rfl (lv_room (Nat.le_of_ble_eq_true rfl)) dX1_merge_38 ⟨Nat.le_refl _, Nat.le_refl _⟩) hP hD hS hA rfl (fun H locs hP hS => ?_)
        refine lv_iadd hx hb dX1_merge_41 ?_
        refine lv_istore_n (lv' := [(3, .int ((q6 - q8) + q10)), (0, .ref aM.1), (1, .int i1), (2, .int i2)]) hx hb dX1_merge_42 rfl hl (by decide) rfl (fun ls hl => ?_)
        refine lv_aload_n hx hb dX1_merge_43 rfl (lv_at hl 1 rfl) ?_
        refine lv_iload_n hx hb dX1_merge_44 rfl (lv_at hl 3 rfl) ?_
        refine lv_iconst (v := (1 : Int32)) hx hb dX1_merge_45 (by decide) ?_
        obtain ⟨q12, h11, h⟩ := Option.bind_eq_some_iff.mp h
        refine kcir [0, 1, 2] (va_runV (As := [.int i2, .int (1 : Int32)]) (rest := []) ⟨hx, hb, hml, hown, hts⟩ (kX1_firstOf l D cI cC cS aM vM0 vM1 vM2 i2 (1 : Int32) H.size h11) (cwV 2 hts gX1_merge_X1_firstOf rfl rfl rfl (by decide +kernel) ⟨Nat.le_of_ble_eq_true rfl, Nat.le_of_ble_eq_true rfl⟩) (kpreV hK hN hP hD [0, 1, 2] rfl (by decide) 1 rfl rfl) rfl rfl hl.1 rfl (lv_room (Nat.le_of_ble_eq_true rfl)) dX1_merge_46 ⟨Nat.le_refl _, Nat.le_refl _⟩) hP hD hS hA rfl (fun H locs hP hS => ?_)
        refine lv_aload_n hx hb dX1_merge_49 rfl (lv_at hl 1 rfl) ?_
        refine lv_iload_n hx hb dX1_merge_50 rfl (lv_at hl 2 rfl) ?_
        refine lv_iconst (v := (1 : Int32)) hx hb dX1_merge_51 (by decide) ?_
        obtain ⟨q14, h13, h⟩ := Option.bind_eq_some_iff.mp h
        refine kcir [0, 1, 2] (va_runV (As := [.int i1, .int (1 : Int32)]) (rest := [.int q12]) ⟨hx, hb, hml, hown, hts⟩ (kX1_firstOf l D cI cC cS aM vM0 vM1 vM2 i1 (1 : Int32) H.size h13) (cwV 2 hts gX1_merge_X1_firstOf rfl rfl rfl (by decide +kernel) ⟨Nat.le_of_ble_eq_true rfl, Nat.le_of_ble_eq_true rfl⟩) (kpreV hK hN hP hD [0, 1, 2] rfl (by decide) 1 rfl rfl) rfl rfl hl.1 rfl (lv_room (Nat.le_of_ble_eq_true rfl)) dX1_merge_52 ⟨Nat.le_refl _, Nat.le_refl _⟩) hP hD hS hA rfl (fun H locs hP hS => ?_)
        refine lv_isub hx hb dX1_merge_55 ?_
        refine lv_aload_n hx hb dX1_merge_56 rfl (lv_at hl 1 rfl) ?_
        refine lv_iload_n hx hb dX1_merge_57 rfl (lv_at hl 3 rfl) ?_
        refine lv_iconst (v := (1 : Int32)) hx hb dX1_merge_58 (by decide) ?_
        obtain ⟨q16, h15, h⟩ := Option.bind_eq_some_iff.mp h
        refine kcir [0, 1, 2] (va_runV (As := [.int i2, .int (1 : Int32)]) (rest := [.int (q12 - q14)]) ⟨hx, hb, hml, hown, hts⟩ (kX1_sizeOf l D cI cC cS aM vM0 vM1 vM2 i2 (1 : Int32) H.size h15) (cwV 2 hts gX1_merge_X1_sizeOf rfl rfl rfl (by decide +kernel) ⟨Nat.le_of_ble_eq_true rfl, Nat.le_of_ble_eq_true rfl⟩) (kpreV hK hN hP hD [0, 1, 2] rfl (by decide) 1 rfl rfl) rfl rfl hl.1 rfl (lv_room (Nat.le_of_ble_eq_true rfl)) dX1_merge_59 ⟨Nat.le_refl _, Nat.le_refl _⟩) hP hD hS hA rfl (fun H locs hP hS => ?_)
        refine lv_iadd hx hb dX1_merge_62 ?_
        refine lv_istore (lv' := [(4, .int ((q12 - q14) + q16)), (3, .int ((q6 - q8) + q10)), (0, .ref aM.1), (1, .int i1), (2, .int i2)]) hx hb dX1_merge_63 hl (by decide) rfl (fun ls hl => ?_)
        refine lv_aload_n hx hb dX1_merge_65 rfl (lv_at hl 2 rfl) ?_
        refine lv_iload_n hx hb dX1_merge_66 rfl (lv_at hl 3 rfl) ?_
        refine lv_iload_n hx hb dX1_merge_67 rfl (lv_at hl 1 rfl) ?_
        refine lv_iload hx hb dX1_merge_68 (lv_at hl 0 rfl) ?_
        obtain ⟨q18, h17, h⟩ := Option.bind_eq_some_iff.mp h
        refine kcvw (ws' := (wMP cI aM q18.1 q18.2 vM2)) [0, 1, 2] (va_runV (As := [.int i1, .int ((q6 - q8) + q10), .int ((q12 - q14) + q16)]) (rest := []) ⟨hx, hb, hml, hown, hts⟩ (kX1_put l D cI cC cS aM vM0 vM1 vM2 i1 ((q6 - q8) + q10) ((q12 - q14) + q16) H.size h17) (cwV 3 hts gX1_merge_X1_put rfl rfl rfl (by decide +kernel) ⟨Nat.le_of_ble_eq_true rfl, Nat.le_of_ble_eq_true rfl⟩) (kpreV hK hN hP hD [0, 1, 2] rfl (by decide) 1 rfl rfl) rfl rfl hl.1 rfl (lv_room (Nat.le_of_ble_eq_true rfl)) dX1_merge_70 ⟨Nat.le_refl _, Nat.le_refl _⟩) hP hD hS hA rfl (by decide) rfl [1, 2, 3] (by decide +kernel) rfl (fun H locs hP hD hS => ?_)
        refine lv_aload_n hx hb dX1_merge_73 rfl (lv_at hl 2 rfl) ?_
        refine va_get (D := D) (ci := 1) (v := .ref aM.2.1) (C := RX1) (T := TX1) (N := 3) hx hb hts huX1 hown hK hP 0 rfl rfl 0 (by decide) (hts (.fieldLink RX1 9 "VerseColumns$GroupMap" "left" "[I") (by decide +kernel)) (fun _ h9 => h9) rfl dX1_merge_74 ?_
        refine lv_iload_n hx hb dX1_merge_77 rfl (lv_at hl 3 rfl) ?_
        refine lv_iconst (v := (1 : Int32)) hx hb dX1_merge_78 (by decide) ?_
        refine lv_iadd hx hb dX1_merge_79 ?_
        refine lv_iload_n hx hb dX1_merge_80 rfl (lv_at hl 4 rfl) ?_
        refine lv_iload_n hx hb dX1_merge_81 rfl (lv_at hl 3 rfl) ?_
        refine lv_isub hx hb dX1_merge_82 ?_
        refine lv_aload_n hx hb dX1_merge_83 rfl (lv_at hl 2 rfl) ?_
        refine va_get (D := D) (ci := 1) (v := .int vM2) (C := RX1) (T := TX1) (N := 3) hx hb hts huX1 hown hK hP 0 rfl rfl 2 (by decide) (hts (.fieldLink RX1 22 "VerseColumns$GroupMap" "groups" "I") (by decide +kernel)) (fun _ h9 => h9) rfl dX1_merge_84 ?_
        obtain ⟨q20, h19, h⟩ := Option.bind_eq_some_iff.mp h
        refine kcvw (ws' := (wMP cI aM q20 q18.2 vM2)) [1] (va_runSN (As := [.ref aM.2.1, .int (i1 + (1 : Int32)), .int (i2 - i1), .int vM2]) (rest := []) ⟨hx, hb, hml, hown, hts⟩ (kX9_closeCells l D cI cC cS aM.2.1 120 q18.1 (i1 + (1 : Int32)) (i2 - i1) vM2 H.size h19) ⟨va_cnB 4 hts gX1_merge_X9_closeCells_n49 rfl rfl rfl (hN.m 16 rfl) (hts (.initialized RX9) (by decide +kernel)) (by decide +kernel) ⟨Nat.le_of_ble_eq_true rfl, Nat.le_of_ble_eq_true rfl⟩, hts (.static yX9_closeCells) (by decide +kernel), trivial⟩ (kpre hK hN hP hD [1] rfl (by decide)) rfl rfl hl.1 rfl (lv_room (Nat.le_of_ble_eq_true rfl)) dX1_merge_87 ⟨Nat.le_refl _, Nat.le_refl _⟩) hP hD hS hA rfl (by decide) rfl [0, 1, 0] (by decide +kernel) rfl (fun H locs hP hD hS => ?_)
        refine lv_aload_n hx hb dX1_merge_90 rfl (lv_at hl 2 rfl) ?_
        refine va_get (D := D) (ci := 1) (v := .ref aM.2.2) (C := RX1) (T := TX1) (N := 3) hx hb hts huX1 hown hK hP 0 rfl rfl 1 (by decide) (hts (.fieldLink RX1 15 "VerseColumns$GroupMap" "right" "[I") (by decide +kernel)) (fun _ h9 => h9) rfl dX1_merge_91 ?_
        refine lv_iload_n hx hb dX1_merge_94 rfl (lv_at hl 3 rfl) ?_
        refine lv_iconst (v := (1 : Int32)) hx hb dX1_merge_95 (by decide) ?_
        refine lv_iadd hx hb dX1_merge_96 ?_
        refine lv_iload_n hx hb dX1_merge_97 rfl (lv_at hl 4 rfl) ?_
        refine lv_iload_n hx hb dX1_merge_98 rfl (lv_at hl 3 rfl) ?_
        refine lv_isub hx hb dX1_merge_99 ?_
        refine lv_aload_n hx hb dX1_merge_100 rfl (lv_at hl 2 rfl) ?_
        refine va_get (D := D) (ci := 1) (v := .int vM2) (C := RX1) (T := TX1) (N := 3) hx hb hts huX1 hown hK hP 0 rfl rfl 2 (by decide) (hts (.fieldLink RX1 22 "VerseColumns$GroupMap" "groups" "I") (by decide +kernel)) (fun _ h9 => h9) rfl dX1_merge_101 ?_
        obtain ⟨q22, h21, h⟩ := Option.bind_eq_some_iff.mp h
        refine kcvw (ws' := (wMP cI aM q20 q22 vM2)) [2] (va_runSN (As := [.ref aM.2.2, .int (i1 + (1 : Int32)), .int (i2 - i1), .int vM2]) (rest := []) ⟨hx, hb, hml, hown, hts⟩ (kX9_closeCells l D cI cC cS aM.2.2 120 q18.2 (i1 + (1 : Int32)) (i2 - i1) vM2 H.size h21) ⟨va_cnB 4 hts gX1_merge_X9_closeCells_n49 rfl rfl rfl (hN.m 16 rfl) (hts (.initialized RX9) (by decide +kernel)) (by decide +kernel) ⟨Nat.le_of_ble_eq_true rfl, Nat.le_of_ble_eq_true rfl⟩, hts (.static yX9_closeCells) (by decide +kernel), trivial⟩ (kpre hK hN hP hD [2] rfl (by decide)) rfl rfl hl.1 rfl (lv_room (Nat.le_of_ble_eq_true rfl)) dX1_merge_104 ⟨Nat.le_refl _, Nat.le_refl _⟩) hP hD hS hA rfl (by decide) rfl [0, 0, 1] (by decide +kernel) rfl (fun H locs hP hD hS => ?_)
        refine lv_aload_n hx hb dX1_merge_107 rfl (lv_at hl 2 rfl) ?_
        refine lv_dup hx hb dX1_merge_108 rfl ?_
        refine va_get (D := D) (ci := 1) (v := .int vM2) (C := RX1) (T := TX1) (N := 3) hx hb hts huX1 hown hK hP 0 rfl rfl 2 (by decide) (hts (.fieldLink RX1 22 "VerseColumns$GroupMap" "groups" "I") (by decide +kernel)) (fun _ h9 => h9) rfl dX1_merge_109 ?_
        refine lv_iload_n hx hb dX1_merge_112 rfl (lv_at hl 4 rfl) ?_
        refine lv_iload_n hx hb dX1_merge_113 rfl (lv_at hl 3 rfl) ?_
        refine lv_isub hx hb dX1_merge_114 ?_
        refine lv_isub hx hb dX1_merge_115 ?_
        refine va_put (D := D) (ci := 1) (v := .int (vM2 - (i2 - i1))) (ty := .int) (C := RX1) (T := TX1) (N := 3) hx hb hts huX1 tyX1 tyX1_ok nmX1 hown hK hP hD hS 0 rfl rfl 2 (by decide) (hts (.fieldLink RX1 22 "VerseColumns$GroupMap" "groups" "I") (by decide +kernel)) (fun _ h9 => h9) rfl (by decide +kernel) rfl rfl (Nat.le_of_ble_eq_true rfl) dX1_merge_116 (fun H locs hP hD hS => ?_)
        have hP : va_P D vwCl (wMP cI aM q20 q22 (vM2 - (i2 - i1))) H := hP
        have hD : va_D A (wMP cI aM q20 q22 (vM2 - (i2 - i1))) := hD
        obtain rfl := Option.some.inj h
        exact W.vret hx hb hr (fun t ht hW => ⟨⟨(), rfl, trivial, by rw [ht]; exact hP, hD⟩, hS.F ht⟩) hS.2.2 dX1_merge_119
      · rw [if_neg g] at h
        obtain rfl := Option.some.inj h
        exact W.vret hx hb hr (fun t ht hW => ⟨⟨(), rfl, trivial, by rw [ht]; exact hP, hD⟩, hS.F ht⟩) hS.2.2 dX1_merge_21
set_option maxHeartbeats 8000000 in
set_option maxRecDepth 100000 in
theorem kX1_cut (l : Launch) (D : va_G) (cI cC cS : ClassId) (aM : Nat × Nat × Nat) (vM0 : (Nat → Int32)) (vM1 : (Nat → Int32)) (vM2 : Int32) (i1 : Int32) (i2 : Int32) (i3 : Int32) (sz : Nat) {q : (Nat → Int32) × (Nat → Int32) × Int32} (h : pX1_cut vM0 vM1 vM2 i1 i2 i3 = some q) : kMv l yX1_cut wsX1_cut ({ frames := 2, cells := 0, slots := 0, locals := 62 } : Room) D (kTy cI cC cS) [.ref aM.1, .int i1, .int i2, .int i3] (wMP cI aM vM0 vM1 vM2) sz (wMP cI aM q.1 q.2.1 q.2.2) := by
  refine Met.ofW (cc := cX1_cut) (maxL := 6) (ret := none) (by decide) rfl ?_
  intro p e s m args below meth c s₁ B hml hv
  obtain ⟨rfl, hsz, hP, hK, hD0, hN⟩ := hv
  have hx := B.exec
  have hb := B.bytes
  have hr := B.returns
  have hts := atoms_spec (ws := wsX1_cut) B.pre
  have hown : s.vm.findClass RX1 = some m.cls := findClass_of_methodNamed B.named
  have hlocks := B.notSynchronized
  subst hsz
  have hD := hD0.self (sz := s.heap.size)
  generalize hAe : va_A (wMP cI aM vM0 vM1 vM2) s.heap.size = A at hD ⊢
  have hA : ∀ q : Nat, s.heap.size ≤ q → A q := fun q h => by rw [← hAe]; exact Or.inr h
  have hS : va_S A s.heap s.heap [] := va_S.rf
  have huX1 : ∀ w ∈ u_ws RX1 TX1 3, w ∈ wsX1_cut := by decide +kernel
  have hl := lv_entry ([.ref aM.1, .int i1, .int i2, .int i3]) (n := 6) (Nat.le_of_ble_eq_true rfl)
  rw [lg_entry_eq]
  generalize (lg_sl ([.ref aM.1, .int i1, .int i2, .int i3]) ++ List.replicate (6 - (lg_sl ([.ref aM.1, .int i1, .int i2, .int i3])).length) Slot.unset).toArray = ls at hl ⊢
  have hl : lv_has ls 6 [(0, .ref aM.1), (1, .int i1), (2, .int i2), (3, .int i3)] := hl
  unfold pX1_cut at h
  refine lv_aload_n hx hb dX1_cut_0 rfl (lv_at hl 0 rfl) ?_
  refine lv_iload_n hx hb dX1_cut_1 rfl (lv_at hl 1 rfl) ?_
  obtain ⟨q2, h1, h⟩ := Option.bind_eq_some_iff.mp h
  refine kcir [0, 1, 2] (va_runV (As := [.int i1]) (rest := []) ⟨hx, hb, hml, hown, hts⟩ (kX1_has l D cI cC cS aM vM0 vM1 vM2 i1 s.heap.size h1) (cwV 1 hts gX1_cut_X1_has rfl rfl rfl (by decide +kernel) ⟨Nat.le_of_ble_eq_true rfl, Nat.le_of_ble_eq_true rfl⟩) (kpreV hK hN hP hD [0, 1, 2] rfl (by decide) 1 rfl rfl) rfl rfl hl.1 rfl (lv_room (Nat.le_of_ble_eq_true rfl)) dX1_cut_2 ⟨Nat.le_refl _, Nat.le_refl _⟩) hP hD hS hA rfl (fun H locs hP hS => ?_)
  refine lv_if_eq (tgt := 17) hx hb dX1_cut_5 (by decide) (fun g => ?_) (fun g => ?_)
  · rw [if_pos g] at h
    obtain rfl := Option.some.inj h
    exact W.vret hx hb hr (fun t ht hW => ⟨⟨(), rfl, trivial, by rw [ht]; exact hP, hD⟩, hS.F ht⟩) hS.2.2 dX1_cut_17
  · rw [if_neg g] at h
    refine lv_aload_n hx hb dX1_cut_8 rfl (lv_at hl 0 rfl) ?_
    refine va_get (D := D) (ci := 1) (v := .int vM2) (C := RX1) (T := TX1) (N := 3) hx hb hts huX1 hown hK hP 0 rfl rfl 2 (by decide) (hts (.fieldLink RX1 22 "VerseColumns$GroupMap" "groups" "I") (by decide +kernel)) (fun _ h9 => h9) rfl dX1_cut_9 ?_
    refine lv_bipush (v := (120 : Int32)) hx hb dX1_cut_12 (by decide) ?_
    refine lv_icmp_lt (tgt := 18) hx hb dX1_cut_14 (by decide) (fun g => ?_) (fun g => ?_)
    · rw [if_pos g] at h
      refine lv_aload_n hx hb dX1_cut_18 rfl (lv_at hl 0 rfl) ?_
      refine lv_iload_n hx hb dX1_cut_19 rfl (lv_at hl 1 rfl) ?_
      refine lv_iconst (v := (0 : Int32)) hx hb dX1_cut_20 (by decide) ?_
      obtain ⟨q4, h3, h⟩ := Option.bind_eq_some_iff.mp h
      refine kcir [0, 1, 2] (va_runV (As := [.int i1, .int (0 : Int32)]) (rest := []) ⟨hx, hb, hml, hown, hts⟩ (kX1_sizeOf l D cI cC cS aM vM0 vM1 vM2 i1 (0 : Int32) H.size h3) (cwV 2 hts gX1_cut_X1_sizeOf rfl rfl rfl (by decide +kernel) ⟨Nat.le_of_ble_eq_true rfl, Nat.le_of_ble_eq_true rfl⟩) (kpreV hK hN hP hD [0, 1, 2] rfl (by decide) 1 rfl rfl) rfl rfl hl.1 rfl (lv_room (Nat.le_of_ble_eq_true rfl)) dX1_cut_21 ⟨Nat.le_refl _, Nat.le_refl _⟩) hP hD hS hA rfl (fun H locs hP hS => ?_)
      refine lv_iload_n hx hb dX1_cut_24 rfl (lv_at hl 2 rfl) ?_
      refine lv_isub hx hb dX1_cut_25 ?_
      refine lv_istore (lv' := [(4, .int (q4 - i2)), (0, .ref aM.1), (1, .int i1), (2, .int i2), (3, .int i3)]) hx hb dX1_cut_26 hl (by decide) rfl (fun ls hl => ?_)
      refine lv_aload_n hx hb dX1_cut_28 rfl (lv_at hl 1 rfl) ?_
      refine lv_iload_n hx hb dX1_cut_29 rfl (lv_at hl 2 rfl) ?_
      refine lv_iconst (v := (1 : Int32)) hx hb dX1_cut_30 (by decide) ?_
      obtain ⟨q6, h5, h⟩ := Option.bind_eq_some_iff.mp h
      refine kcir [0, 1, 2] (va_runV (As := [.int i1, .int (1 : Int32)]) (rest := []) ⟨hx, hb, hml, hown, hts⟩ (kX1_sizeOf l D cI cC cS aM vM0 vM1 vM2 i1 (1 : Int32) H.size h5) (cwV 2 hts gX1_cut_X1_sizeOf rfl rfl rfl (by decide +kernel) ⟨Nat.le_of_ble_eq_true rfl, Nat.le_of_ble_eq_true rfl⟩) (kpreV hK hN hP hD [0, 1, 2] rfl (by decide) 1 rfl rfl) rfl rfl hl.1 rfl (lv_room (Nat.le_of_ble_eq_true rfl)) dX1_cut_31 ⟨Nat.le_refl _, Nat.le_refl _⟩) hP hD hS hA rfl (fun H locs hP hS => ?_)
      refine lv_iload_n hx hb dX1_cut_34 rfl (lv_at hl 4 rfl) ?_
      refine lv_isub hx hb dX1_cut_35 ?_
      refine lv_istore (lv' := [(5, .int (q6 - i3)), (4, .int (q4 - i2)), (0, .ref aM.1), (1, .int i1), (2, .int i2), (3, .int i3)]) hx hb dX1_cut_36 hl (by decide) rfl (fun ls hl => ?_)
      refine lv_aload_n hx hb dX1_cut_38 rfl (lv_at hl 2 rfl) ?_
      refine va_get (D := D) (ci := 1) (v := .ref aM.2.1) (C := RX1) (T := TX1) (N := 3) hx hb hts huX1 hown hK hP 0 rfl rfl 0 (by decide) (hts (.fieldLink RX1 9 "VerseColumns$GroupMap" "left" "[I") (by decide +kernel)) (fun _ h9 => h9) rfl dX1_cut_39 ?_
      refine lv_iload_n hx hb dX1_cut_42 rfl (lv_at hl 3 rfl) ?_
      refine lv_aload_n hx hb dX1_cut_43 rfl (lv_at hl 2 rfl) ?_
      refine va_get (D := D) (ci := 1) (v := .int vM2) (C := RX1) (T := TX1) (N := 3) hx hb hts huX1 hown hK hP 0 rfl rfl 2 (by decide) (hts (.fieldLink RX1 22 "VerseColumns$GroupMap" "groups" "I") (by decide +kernel)) (fun _ h9 => h9) rfl dX1_cut_44 ?_
      obtain ⟨q8, h7, h⟩ := Option.bind_eq_some_iff.mp h
      refine kcvw (ws' := (wMP cI aM q8 vM1 vM2)) [1] (va_runSN (As := [.ref aM.2.1, .int i1, .int vM2]) (rest := []) ⟨hx, hb, hml, hown, hts⟩ (kX9_openCell l D cI cC cS aM.2.1 120 vM0 i1 vM2 H.size h7) ⟨va_cnB 3 hts gX1_cut_X9_openCell_n53 rfl rfl rfl (hN.m 24 rfl) (hts (.initialized RX9) (by decide +kernel)) (by decide +kernel) ⟨Nat.le_of_ble_eq_true rfl, Nat.le_of_ble_eq_true rfl⟩, hts (.static yX9_openCell) (by decide +kernel), trivial⟩ (kpre hK hN hP hD [1] rfl (by decide)) rfl rfl hl.1 rfl (lv_room (Nat.le_of_ble_eq_true rfl)) dX1_cut_47 ⟨Nat.le_refl _, Nat.le_refl _⟩) hP hD hS hA rfl (by decide) rfl [0, 1, 0] (by decide +kernel) rfl (fun H locs hP hD hS => ?_)
      refine lv_aload_n hx hb dX1_cut_50 rfl (lv_at hl 2 rfl) ?_
      refine va_get (D := D) (ci := 1) (v := .ref aM.2.2) (C := RX1) (T := TX1) (N := 3) hx hb hts huX1 hown hK hP 0 rfl rfl 1 (by decide) (hts (.fieldLink RX1 15 "VerseColumns$GroupMap" "right" "[I") (by decide +kernel)) (fun _ h9 => h9) rfl dX1_cut_51 ?_
      refine lv_iload_n hx hb dX1_cut_54 rfl (lv_at hl 3 rfl) ?_
      refine lv_aload_n hx hb dX1_cut_55 rfl (lv_at hl 2 rfl) ?_
      refine va_get (D := D) (ci := 1) (v := .int vM2) (C := RX1) (T := TX1) (N := 3) hx hb hts huX1 hown hK hP 0 rfl rfl 2 (by decide) (hts (.fieldLink RX1 22 "VerseColumns$GroupMap" "groups" "I") (by decide +kernel)) (fun _ h9 => h9) rfl dX1_cut_56 ?_
      obtain ⟨q10, h9, h⟩ := Option.bind_eq_some_iff.mp h
      refine kcvw (ws' := (wMP cI aM q8 q10 vM2)) [2] (va_runSN (As := [.ref aM.2.2, .int i1, .int vM2]) (rest := []) ⟨hx, hb, hml, hown, hts⟩ (kX9_openCell l D cI cC cS aM.2.2 120 vM1 i1 vM2 H.size h9) ⟨va_cnB 3 hts gX1_cut_X9_openCell_n53 rfl rfl rfl (hN.m 24 rfl) (hts (.initialized RX9) (by decide +kernel)) (by decide +kernel) ⟨Nat.le_of_ble_eq_true rfl, Nat.le_of_ble_eq_true rfl⟩, hts (.static yX9_openCell) (by decide +kernel), trivial⟩ (kpre hK hN hP hD [2] rfl (by decide)) rfl rfl hl.1 rfl (lv_room (Nat.le_of_ble_eq_true rfl)) dX1_cut_59 ⟨Nat.le_refl _, Nat.le_refl _⟩) hP hD hS hA rfl (by decide) rfl [0, 0, 1] (by decide +kernel) rfl (fun H locs hP hD hS => ?_)
      refine lv_aload_n hx hb dX1_cut_62 rfl (lv_at hl 2 rfl) ?_
      refine lv_dup hx hb dX1_cut_63 rfl ?_
      refine va_get (D := D) (ci := 1) (v := .int vM2) (C := RX1) (T := TX1) (N := 3) hx hb hts huX1 hown hK hP 0 rfl rfl 2 (by decide) (hts (.fieldLink RX1 22 "VerseColumns$GroupMap" "groups" "I") (by decide +kernel)) (fun _ h9 => h9) rfl dX1_cut_64 ?_
      refine lv_iconst (v := (1 : Int32)) hx hb dX1_cut_67 (by decide) ?_
      refine lv_iadd hx hb dX1_cut_68 ?_
      refine va_put (D := D) (ci := 1) (v := .int (vM2 + (1 : Int32))) (ty := .int) (C := RX1) (T := TX1) (N := 3) hx hb hts huX1 tyX1 tyX1_ok nmX1 hown hK hP hD hS 0 rfl rfl 2 (by decide) (hts (.fieldLink RX1 22 "VerseColumns$GroupMap" "groups" "I") (by decide +kernel)) (fun _ h9 => h9) rfl (by decide +kernel) rfl rfl (Nat.le_of_ble_eq_true rfl) dX1_cut_69 (fun H locs hP hD hS => ?_)
      have hP : va_P D vwCl (wMP cI aM q8 q10 (vM2 + (1 : Int32))) H := hP
      have hD : va_D A (wMP cI aM q8 q10 (vM2 + (1 : Int32))) := hD
      refine lv_aload_n hx hb dX1_cut_72 rfl (lv_at hl 2 rfl) ?_
      refine lv_iload_n hx hb dX1_cut_73 rfl (lv_at hl 3 rfl) ?_
      refine lv_iload_n hx hb dX1_cut_74 rfl (lv_at hl 4 rfl) ?_
      refine lv_iload_n hx hb dX1_cut_75 rfl (lv_at hl 5 rfl) ?_
      obtain ⟨q12, h11, h⟩ := Option.bind_eq_some_iff.mp h
      refine kcvw (ws' := (wMP cI aM q12.1 q12.2 (vM2 + (1 : Int32)))) [0, 1, 2] (va_runV (As := [.int i1, .int i2, .int i3]) (rest := []) ⟨hx, hb, hml, hown, hts⟩ (kX1_put l D cI cC cS aM q8 q10 (vM2 + (1 : Int32)) i1 i2 i3 H.size h11) (cwV 3 hts gX1_cut_X1_put rfl rfl rfl (by decide +kernel) ⟨Nat.le_of_ble_eq_true rfl, Nat.le_of_ble_eq_true rfl⟩) (kpreV hK hN hP hD [0, 1, 2] rfl (by decide) 1 rfl rfl) rfl rfl hl.1 rfl (lv_room (Nat.le_of_ble_eq_true rfl)) dX1_cut_76 ⟨Nat.le_refl _, Nat.le_refl _⟩) hP hD hS hA rfl (by decide) rfl [1, 2, 3] (by decide +kernel) rfl (fun H locs hP hD hS => ?_)
      refine lv_aload_n hx hb dX1_cut_79 rfl (lv_at hl 2 rfl) ?_
      refine lv_iload_n hx hb dX1_cut_80 rfl (lv_at hl 3 rfl) ?_
      refine lv_iconst (v := (1 : Int32)) hx hb dX1_cut_81 (by decide) ?_
      refine lv_iadd hx hb dX1_cut_82 ?_
      refine lv_iload hx hb dX1_cut_83 (lv_at hl 1 rfl) ?_
      refine lv_iload hx hb dX1_cut_85 (lv_at hl 0 rfl) ?_
      obtain ⟨q14, h13, h⟩ := Option.bind_eq_some_iff.mp h
      refine kcvw (ws' := (wMP cI aM q14.1 q14.2 (vM2 + (1 : Int32)))) [0, 1, 2] (va_runV (As := [.int (i1 + (1 : Int32)), .int (q4 - i2), .int (q6 - i3)]) (rest := []) ⟨hx, hb, hml, hown, hts⟩ (kX1_put l D cI cC cS aM q12.1 q12.2 (vM2 + (1 : Int32)) (i1 + (1 : Int32)) (q4 - i2) (q6 - i3) H.size h13) (cwV 3 hts gX1_cut_X1_put rfl rfl rfl (by decide +kernel) ⟨Nat.le_of_ble_eq_true rfl, Nat.le_of_ble_eq_true rfl⟩) (kpreV hK hN hP hD [0, 1, 2] rfl (by decide) 1 rfl rfl) rfl rfl hl.1 rfl (lv_room (Nat.le_of_ble_eq_true rfl)) dX1_cut_87 ⟨Nat.le_refl _, Nat.le_refl _⟩) hP hD hS hA rfl (by decide) rfl [1, 2, 3] (by decide +kernel) rfl (fun H locs hP hD hS => ?_)
      obtain rfl := Option.some.inj h
      exact W.vret hx hb hr (fun t ht hW => ⟨⟨(), rfl, trivial, by rw [ht]; exact hP, hD⟩, hS.F ht⟩) hS.2.2 dX1_cut_90
    · rw [if_neg g] at h
      obtain rfl := Option.some.inj h
      exact W.vret hx hb hr (fun t ht hW => ⟨⟨(), rfl, trivial, by rw [ht]; exact hP, hD⟩, hS.F ht⟩) hS.2.2 dX1_cut_17
set_option maxHeartbeats 8000000 in
set_option maxRecDepth 100000 in
theorem kX1_copyFrom (l : Launch) (D : va_G) (cI cC cS : ClassId) (aM : Nat × Nat × Nat) (vM0 : (Nat → Int32)) (vM1 : (Nat → Int32)) (vM2 : Int32) (aO : Nat × Nat × Nat) (vO0 : (Nat → Int32)) (vO1 : (Nat → Int32)) (vO2 : Int32) (sz : Nat) {q : (Nat → Int32) × (Nat → Int32) × Int32} (h : pX1_copyFrom vO0 vO1 vO2 = some q) : kMv l yX1_copyFrom wsX1_copyFrom ({ frames := 2, cells := 0, slots := 0, locals := 61 } : Room) D (kTy cI cC cS) [.ref aM.1, .ref aO.1] (wMP cI aM vM0 vM1 vM2 ++ wMP cI aO vO0 vO1 vO2) sz (wMP cI aM q.1 q.2.1 q.2.2 ++ wMP cI aO vO0 vO1 vO2) := by
  refine Met.ofW (cc := cX1_copyFrom) (maxL := 2) (ret := none) (by decide) rfl ?_
  intro p e s m args below meth c s₁ B hml hv
  obtain ⟨rfl, hsz, hP, hK, hD0, hN⟩ := hv
  have hx := B.exec
  have hb := B.bytes
  have hr := B.returns
  have hts := atoms_spec (ws := wsX1_copyFrom) B.pre
  have hown : s.vm.findClass RX1 = some m.cls := findClass_of_methodNamed B.named
  have hlocks := B.notSynchronized
  subst hsz
  have hD := hD0.self (sz := s.heap.size)
  generalize hAe : va_A (wMP cI aM vM0 vM1 vM2 ++ wMP cI aO vO0 vO1 vO2) s.heap.size = A at hD ⊢
  have hA : ∀ q : Nat, s.heap.size ≤ q → A q := fun q h => by rw [← hAe]; exact Or.inr h
  have hS : va_S A s.heap s.heap [] := va_S.rf
  have huX1 : ∀ w ∈ u_ws RX1 TX1 3, w ∈ wsX1_copyFrom := by decide +kernel
  have hl := lv_entry ([.ref aM.1, .ref aO.1]) (n := 2) (Nat.le_of_ble_eq_true rfl)
  rw [lg_entry_eq]
  generalize (lg_sl ([.ref aM.1, .ref aO.1]) ++ List.replicate (2 - (lg_sl ([.ref aM.1, .ref aO.1])).length) Slot.unset).toArray = ls at hl ⊢
  have hl : lv_has ls 2 [(0, .ref aM.1), (1, .ref aO.1)] := hl
  unfold pX1_copyFrom at h
  refine lv_aload_n hx hb dX1_copyFrom_0 rfl (lv_at hl 1 rfl) ?_
  refine va_get (D := D) (ci := 1) (v := .ref aO.2.1) (C := RX1) (T := TX1) (N := 3) hx hb hts huX1 hown hK hP 3 rfl rfl 0 (by decide) (hts (.fieldLink RX1 9 "VerseColumns$GroupMap" "left" "[I") (by decide +kernel)) (fun _ h9 => h9) rfl dX1_copyFrom_1 ?_
  refine lv_aload_n hx hb dX1_copyFrom_4 rfl (lv_at hl 0 rfl) ?_
  refine va_get (D := D) (ci := 1) (v := .ref aM.2.1) (C := RX1) (T := TX1) (N := 3) hx hb hts huX1 hown hK hP 0 rfl rfl 0 (by decide) (hts (.fieldLink RX1 9 "VerseColumns$GroupMap" "left" "[I") (by decide +kernel)) (fun _ h9 => h9) rfl dX1_copyFrom_5 ?_
  obtain ⟨q2, h1, h⟩ := Option.bind_eq_some_iff.mp h
  refine kcvw (ws' := (wMP cI aM q2 vM1 vM2 ++ wMP cI aO vO0 vO1 vO2)) [4, 1] (va_runSN (As := [.ref aO.2.1, .ref aM.2.1]) (rest := []) ⟨hx, hb, hml, hown, hts⟩ (kX9_copyRow l D cI cC cS aO.2.1 120 vO0 aM.2.1 120 vM0 s.heap.size h1) ⟨va_cnB 2 hts gX1_copyFrom_X9_copyRow_n18 rfl rfl rfl (hN.m 13 rfl) (hts (.initialized RX9) (by decide +kernel)) (by decide +kernel) ⟨Nat.le_of_ble_eq_true rfl, Nat.le_of_ble_eq_true rfl⟩, hts (.static yX9_copyRow) (by decide +kernel), trivial⟩ (kpre hK hN hP hD [4, 1] rfl (by decide)) rfl rfl hl.1 rfl (lv_room (Nat.le_of_ble_eq_true rfl)) dX1_copyFrom_8 ⟨Nat.le_refl _, Nat.le_refl _⟩) hP hD hS hA rfl (by decide) rfl [0, 2, 0, 0, 1, 0] (by decide +kernel) rfl (fun H locs hP hD hS => ?_)
  refine lv_aload_n hx hb dX1_copyFrom_11 rfl (lv_at hl 1 rfl) ?_
  refine va_get (D := D) (ci := 1) (v := .ref aO.2.2) (C := RX1) (T := TX1) (N := 3) hx hb hts huX1 hown hK hP 3 rfl rfl 1 (by decide) (hts (.fieldLink RX1 15 "VerseColumns$GroupMap" "right" "[I") (by decide +kernel)) (fun _ h9 => h9) rfl dX1_copyFrom_12 ?_
  refine lv_aload_n hx hb dX1_copyFrom_15 rfl (lv_at hl 0 rfl) ?_
  refine va_get (D := D) (ci := 1) (v := .ref aM.2.2) (C := RX1) (T := TX1) (N := 3) hx hb hts huX1 hown hK hP 0 rfl rfl 1 (by decide) (hts (.fieldLink RX1 15 "VerseColumns$GroupMap" "right" "[I") (by decide +kernel)) (fun _ h9 => h9) rfl dX1_copyFrom_16 ?_
  obtain ⟨q4, h3, h⟩ := Option.bind_eq_some_iff.mp h
  refine kcvw (ws' := (wMP cI aM q2 q4 vM2 ++ wMP cI aO vO0 vO1 vO2)) [5, 2] (va_runSN (As := [.ref aO.2.2, .ref aM.2.2]) (rest := []) ⟨hx, hb, hml, hown, hts⟩ (kX9_copyRow l D cI cC cS aO.2.2 120 vO1 aM.2.2 120 vM1 H.size h3) ⟨va_cnB 2 hts gX1_copyFrom_X9_copyRow_n18 rfl rfl rfl (hN.m 13 rfl) (hts (.initialized RX9) (by decide +kernel)) (by decide +kernel) ⟨Nat.le_of_ble_eq_true rfl, Nat.le_of_ble_eq_true rfl⟩, hts (.static yX9_copyRow) (by decide +kernel), trivial⟩ (kpre hK hN hP hD [5, 2] rfl (by decide)) rfl rfl hl.1 rfl (lv_room (Nat.le_of_ble_eq_true rfl)) dX1_copyFrom_19 ⟨Nat.le_refl _, Nat.le_refl _⟩) hP hD hS hA rfl (by decide) rfl [0, 0, 2, 0, 0, 1] (by decide +kernel) rfl (fun H locs hP hD hS => ?_)
  refine lv_aload_n hx hb dX1_copyFrom_22 rfl (lv_at hl 0 rfl) ?_
  refine lv_aload_n hx hb dX1_copyFrom_23 rfl (lv_at hl 1 rfl) ?_
  refine va_get (D := D) (ci := 1) (v := .int vO2) (C := RX1) (T := TX1) (N := 3) hx hb hts huX1 hown hK hP 3 rfl rfl 2 (by decide) (hts (.fieldLink RX1 22 "VerseColumns$GroupMap" "groups" "I") (by decide +kernel)) (fun _ h9 => h9) rfl dX1_copyFrom_24 ?_
  refine va_put (D := D) (ci := 1) (v := .int vO2) (ty := .int) (C := RX1) (T := TX1) (N := 3) hx hb hts huX1 tyX1 tyX1_ok nmX1 hown hK hP hD hS 0 rfl rfl 2 (by decide) (hts (.fieldLink RX1 22 "VerseColumns$GroupMap" "groups" "I") (by decide +kernel)) (fun _ h9 => h9) rfl (by decide +kernel) rfl rfl (Nat.le_of_ble_eq_true rfl) dX1_copyFrom_27 (fun H locs hP hD hS => ?_)
  have hP : va_P D vwCl (wMP cI aM q2 q4 vO2 ++ wMP cI aO vO0 vO1 vO2) H := hP
  have hD : va_D A (wMP cI aM q2 q4 vO2 ++ wMP cI aO vO0 vO1 vO2) := hD
  obtain rfl := Option.some.inj h
  exact W.vret hx hb hr (fun t ht hW => ⟨⟨(), rfl, trivial, by rw [ht]; exact hP, hD⟩, hS.F ht⟩) hS.2.2 dX1_copyFrom_30
