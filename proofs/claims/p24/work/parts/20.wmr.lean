-- walks: mr (printed by wip/whole/gen)
set_option maxHeartbeats 8000000 in
set_option maxRecDepth 100000 in
theorem kX4_use (l : Launch) (D : va_G) (cI cC cS : ClassId) (aJ : Nat) (xJ0 : Nat) (vJ0 : Int32) (vJ1 : Int32) (aT : Nat × Nat) (vT0 : (Nat → Int32)) (vT1 : Int32) (vT2 : Int32) (vT3 : Int32) (vT4 : Int32) (vT5 : Int32) (i2 : Int32) (i3 : Int32) (sz : Nat) {q : Int32 × Int32 × Int32} (h : pX4_use vJ0 vJ1 vT3 vT5 i2 i3 = some q) : kMv l yX4_use wsX4_use ({ frames := 2, cells := 0, slots := 0, locals := 41 } : Room) D (kTy cI cC cS) [.ref aJ, .ref aT.1, .int i2, .int i3] (wMR aJ xJ0 vJ0 vJ1 ++ wTX cC aT vT0 vT1 vT2 vT3 vT4 vT5) sz (wMR aJ xJ0 q.1 q.2.1 ++ wTX cC aT vT0 vT1 vT2 q.2.2 vT4 vT5) := by
  refine Met.ofW (cc := cX4_use) (maxL := 4) (ret := none) (by decide) rfl ?_
  intro p e s m args below meth c s₁ B hml hv
  obtain ⟨rfl, hsz, hP, hK, hD0, hN⟩ := hv
  have hx := B.exec
  have hb := B.bytes
  have hr := B.returns
  have hts := atoms_spec (ws := wsX4_use) B.pre
  have hown : s.vm.findClass RX4 = some m.cls := findClass_of_methodNamed B.named
  have hlocks := B.notSynchronized
  subst hsz
  have hD := hD0.self (sz := s.heap.size)
  generalize hAe : va_A (wMR aJ xJ0 vJ0 vJ1 ++ wTX cC aT vT0 vT1 vT2 vT3 vT4 vT5) s.heap.size = A at hD ⊢
  have hA : ∀ q : Nat, s.heap.size ≤ q → A q := fun q h => by rw [← hAe]; exact Or.inr h
  have hS : va_S A s.heap s.heap [] := va_S.rf
  have huX4 : ∀ w ∈ u_ws RX4 TX4 3, w ∈ wsX4_use := by decide +kernel
  have hl := lv_entry ([.ref aJ, .ref aT.1, .int i2, .int i3]) (n := 4) (Nat.le_of_ble_eq_true rfl)
  rw [lg_entry_eq]
  generalize (lg_sl ([.ref aJ, .ref aT.1, .int i2, .int i3]) ++ List.replicate (4 - (lg_sl ([.ref aJ, .ref aT.1, .int i2, .int i3])).length) Slot.unset).toArray = ls at hl ⊢
  have hl : lv_has ls 4 [(0, .ref aJ), (1, .ref aT.1), (2, .int i2), (3, .int i3)] := hl
  unfold pX4_use at h
  refine lv_iload_n hx hb dX4_use_0 rfl (lv_at hl 2 rfl) ?_
  refine lv_aload_n hx hb dX4_use_1 rfl (lv_at hl 0 rfl) ?_
  refine va_get (D := D) (ci := 4) (v := .int vJ0) (C := RX4) (T := TX4) (N := 3) hx hb hts huX4 hown hK hP 0 rfl rfl 1 (by decide) (hts (.fieldLink RX4 38 "VerseColumns$MapReader" "leftRest" "I") (by decide +kernel)) (fun _ h9 => h9) rfl dX4_use_2 ?_
  refine lv_icmp_gt (tgt := 16) hx hb dX4_use_5 (by decide) (fun g => ?_) (fun g => ?_)
  · rw [if_pos g] at h
    refine lv_aload_n hx hb dX4_use_16 rfl (lv_at hl 1 rfl) ?_
    obtain ⟨q2, h1, h⟩ := Option.bind_eq_some_iff.mp h
    refine kcvw (ws' := (wMR aJ xJ0 vJ0 vJ1 ++ wTX cC aT vT0 vT1 vT2 q2 vT4 vT5)) [1, 2] (va_runV (As := []) (rest := []) ⟨hx, hb, hml, hown, hts⟩ (kX8_failAtNumber l D cI cC cS aT vT0 vT1 vT2 vT3 vT4 vT5 s.heap.size h1) (cwV 0 hts gX4_use_X8_failAtNumber rfl rfl rfl (by decide +kernel) ⟨Nat.le_of_ble_eq_true rfl, Nat.le_of_ble_eq_true rfl⟩) (kpreV hK hN hP hD [1, 2] rfl (by decide) 8 rfl rfl) rfl rfl hl.1 rfl (lv_room (Nat.le_of_ble_eq_true rfl)) dX4_use_17 ⟨Nat.le_refl _, Nat.le_refl _⟩) hP hD hS hA rfl (by decide) rfl [0, 1, 2] (by decide +kernel) rfl (fun H locs hP hD hS => ?_)
    obtain rfl := Option.some.inj h
    exact W.vret hx hb hr (fun t ht hW => ⟨⟨(), rfl, trivial, by rw [ht]; exact hP, hD⟩, hS.F ht⟩) hS.2.2 dX4_use_20
  · rw [if_neg g] at h
    refine lv_iload_n hx hb dX4_use_8 rfl (lv_at hl 3 rfl) ?_
    refine lv_aload_n hx hb dX4_use_9 rfl (lv_at hl 0 rfl) ?_
    refine va_get (D := D) (ci := 4) (v := .int vJ1) (C := RX4) (T := TX4) (N := 3) hx hb hts huX4 hown hK hP 0 rfl rfl 2 (by decide) (hts (.fieldLink RX4 44 "VerseColumns$MapReader" "rightRest" "I") (by decide +kernel)) (fun _ h9 => h9) rfl dX4_use_10 ?_
    refine lv_icmp_le (tgt := 21) hx hb dX4_use_13 (by decide) (fun g => ?_) (fun g => ?_)
    · rw [if_pos g] at h
      refine lv_aload_n hx hb dX4_use_21 rfl (lv_at hl 0 rfl) ?_
      refine lv_dup hx hb dX4_use_22 rfl ?_
      refine va_get (D := D) (ci := 4) (v := .int vJ0) (C := RX4) (T := TX4) (N := 3) hx hb hts huX4 hown hK hP 0 rfl rfl 1 (by decide) (hts (.fieldLink RX4 38 "VerseColumns$MapReader" "leftRest" "I") (by decide +kernel)) (fun _ h9 => h9) rfl dX4_use_23 ?_
      refine lv_iload_n hx hb dX4_use_26 rfl (lv_at hl 2 rfl) ?_
      refine lv_isub hx hb dX4_use_27 ?_
      refine va_put (D := D) (ci := 4) (v := .int (vJ0 - i2)) (ty := .int) (C := RX4) (T := TX4) (N := 3) hx hb hts huX4 tyX4 tyX4_ok nmX4 hown hK hP hD hS 0 rfl rfl 1 (by decide) (hts (.fieldLink RX4 38 "VerseColumns$MapReader" "leftRest" "I") (by decide +kernel)) (fun _ h9 => h9) rfl (by decide +kernel) rfl rfl (Nat.le_of_ble_eq_true rfl) dX4_use_28 (fun H locs hP hD hS => ?_)
      have hP : va_P D vwCl (wMR aJ xJ0 (vJ0 - i2) vJ1 ++ wTX cC aT vT0 vT1 vT2 vT3 vT4 vT5) H := hP
      have hD : va_D A (wMR aJ xJ0 (vJ0 - i2) vJ1 ++ wTX cC aT vT0 vT1 vT2 vT3 vT4 vT5) := hD
      refine lv_aload_n hx hb dX4_use_31 rfl (lv_at hl 0 rfl) ?_
      refine lv_dup hx hb dX4_use_32 rfl ?_
      refine va_get (D := D) (ci := 4) (v := .int vJ1) (C := RX4) (T := TX4) (N := 3) hx hb hts huX4 hown hK hP 0 rfl rfl 2 (by decide) (hts (.fieldLink RX4 44 "VerseColumns$MapReader" "rightRest" "I") (by decide +kernel)) (fun _ h9 => h9) rfl dX4_use_33 ?_
      refine lv_iload_n hx hb dX4_use_36 rfl (lv_at hl 3 rfl) ?_
      refine lv_isub hx hb dX4_use_37 ?_
      refine va_put (D := D) (ci := 4) (v := .int (vJ1 - i3)) (ty := .int) (C := RX4) (T := TX4) (N := 3) hx hb hts huX4 tyX4 tyX4_ok nmX4 hown hK hP hD hS 0 rfl rfl 2 (by decide) (hts (.fieldLink RX4 44 "VerseColumns$MapReader" "rightRest" "I") (by decide +kernel)) (fun _ h9 => h9) rfl (by decide +kernel) rfl rfl (Nat.le_of_ble_eq_true rfl) dX4_use_38 (fun H locs hP hD hS => ?_)
      have hP : va_P D vwCl (wMR aJ xJ0 (vJ0 - i2) (vJ1 - i3) ++ wTX cC aT vT0 vT1 vT2 vT3 vT4 vT5) H := hP
      have hD : va_D A (wMR aJ xJ0 (vJ0 - i2) (vJ1 - i3) ++ wTX cC aT vT0 vT1 vT2 vT3 vT4 vT5) := hD
      obtain rfl := Option.some.inj h
      exact W.vret hx hb hr (fun t ht hW => ⟨⟨(), rfl, trivial, by rw [ht]; exact hP, hD⟩, hS.F ht⟩) hS.2.2 dX4_use_41
    · rw [if_neg g] at h
      refine lv_aload_n hx hb dX4_use_16 rfl (lv_at hl 1 rfl) ?_
      obtain ⟨q4, h3, h⟩ := Option.bind_eq_some_iff.mp h
      refine kcvw (ws' := (wMR aJ xJ0 vJ0 vJ1 ++ wTX cC aT vT0 vT1 vT2 q4 vT4 vT5)) [1, 2] (va_runV (As := []) (rest := []) ⟨hx, hb, hml, hown, hts⟩ (kX8_failAtNumber l D cI cC cS aT vT0 vT1 vT2 vT3 vT4 vT5 s.heap.size h3) (cwV 0 hts gX4_use_X8_failAtNumber rfl rfl rfl (by decide +kernel) ⟨Nat.le_of_ble_eq_true rfl, Nat.le_of_ble_eq_true rfl⟩) (kpreV hK hN hP hD [1, 2] rfl (by decide) 8 rfl rfl) rfl rfl hl.1 rfl (lv_room (Nat.le_of_ble_eq_true rfl)) dX4_use_17 ⟨Nat.le_refl _, Nat.le_refl _⟩) hP hD hS hA rfl (by decide) rfl [0, 1, 2] (by decide +kernel) rfl (fun H locs hP hD hS => ?_)
      obtain rfl := Option.some.inj h
      exact W.vret hx hb hr (fun t ht hW => ⟨⟨(), rfl, trivial, by rw [ht]; exact hP, hD⟩, hS.F ht⟩) hS.2.2 dX4_use_20
set_option maxHeartbeats 8000000 in
set_option maxRecDepth 100000 in
theorem kX4_addGroups (l : Launch) (D : va_G) (cI cC cS : ClassId) (aJ : Nat) (vJ0 : Int32) (vJ1 : Int32) (aM : Nat × Nat × Nat) (vM0 : (Nat → Int32)) (vM1 : (Nat → Int32)) (vM2 : Int32) (aT : Nat × Nat) (vT0 : (Nat → Int32)) (vT1 : Int32) (vT2 : Int32) (vT3 : Int32) (vT4 : Int32) (vT5 : Int32) (i2 : Int32) (i3 : Int32) (i4 : Int32) (sz : Nat) {q : Int32 × Int32 × (Nat → Int32) × (Nat → Int32) × Int32 × Int32} (h : pX4_addGroups vJ0 vJ1 vM0 vM1 vM2 vT3 vT5 i2 i3 i4 = some q) : kMv l yX4_addGroups wsX4_addGroups ({ frames := 3, cells := 0, slots := 0, locals := 66 } : Room) D (kTy cI cC cS) [.ref aJ, .ref aT.1, .int i2, .int i3, .int i4] (wMR aJ aM.1 vJ0 vJ1 ++ (wMP cI aM vM0 vM1 vM2 ++ wTX cC aT vT0 vT1 vT2 vT3 vT4 vT5)) sz (wMR aJ aM.1 q.1 q.2.1 ++ (wMP cI aM q.2.2.1 q.2.2.2.1 q.2.2.2.2.1 ++ wTX cC aT vT0 vT1 vT2 q.2.2.2.2.2 vT4 vT5)) := by
  refine Met.ofW (cc := cX4_addGroups) (maxL := 6) (ret := none) (by decide) rfl ?_
  intro p e s m args below meth c s₁ B hml hv
  obtain ⟨rfl, hsz, hP, hK, hD0, hN⟩ := hv
  have hx := B.exec
  have hb := B.bytes
  have hr := B.returns
  have hts := atoms_spec (ws := wsX4_addGroups) B.pre
  have hown : s.vm.findClass RX4 = some m.cls := findClass_of_methodNamed B.named
  have hlocks := B.notSynchronized
  subst hsz
  have hD := hD0.self (sz := s.heap.size)
  generalize hAe : va_A (wMR aJ aM.1 vJ0 vJ1 ++ (wMP cI aM vM0 vM1 vM2 ++ wTX cC aT vT0 vT1 vT2 vT3 vT4 vT5)) s.heap.size = A at hD ⊢
  have hA : ∀ q : Nat, s.heap.size ≤ q → A q := fun q h => by rw [← hAe]; exact Or.inr h
  have hS : va_S A s.heap s.heap [] := va_S.rf
  have huX4 : ∀ w ∈ u_ws RX4 TX4 3, w ∈ wsX4_addGroups := by decide +kernel
  have hl := lv_entry ([.ref aJ, .ref aT.1, .int i2, .int i3, .int i4]) (n := 6) (Nat.le_of_ble_eq_true rfl)
  rw [lg_entry_eq]
  generalize (lg_sl ([.ref aJ, .ref aT.1, .int i2, .int i3, .int i4]) ++ List.replicate (6 - (lg_sl ([.ref aJ, .ref aT.1, .int i2, .int i3, .int i4])).length) Slot.unset).toArray = ls at hl ⊢
  have hl : lv_has ls 6 [(0, .ref aJ), (1, .ref aT.1), (2, .int i2), (3, .int i3), (4, .int i4)] := hl
  have L15 : ∀ (nL15 : Nat) (c0_0 : Int32) (c0_1 : Int32) (c1_0 : (Nat → Int32)) (c1_1 : (Nat → Int32)) (c1_2 : Int32) (c2_3 : Int32) (y2 : Int32) (y3 : Int32) (y4 : Int32) (y5 : Int32) (H : Heap) (locs : List Loc) (ls : Array Slot), pX4_addGroups_L15 vT5 nL15 c0_0 c0_1 c1_0 c1_1 c1_2 c2_3 y2 y3 y4 y5 = some q → va_P D vwCl (wMR aJ aM.1 c0_0 c0_1 ++ (wMP cI aM c1_0 c1_1 c1_2 ++ wTX cC aT vT0 vT1 vT2 c2_3 vT4 vT5)) H → va_D A (wMR aJ aM.1 c0_0 c0_1 ++ (wMP cI aM c1_0 c1_1 c1_2 ++ wTX cC aT vT0 vT1 vT2 c2_3 vT4 vT5)) → va_S A s.heap H locs → lv_has ls 6 [(0, .ref aJ), (1, .ref aT.1), (2, .int y2), (3, .int y3), (4, .int y4), (5, .int y5)] → W p l e ({ frames := 3, cells := 0, slots := 0, locals := 66 } : Room) s m ([.ref aJ, .ref aT.1, .int i2, .int i3, .int i4] : List Value).toArray below meth c H locs 0 0 (MQ below (va_Qv (fun (_ : Unit) => True) (fun _ => kPost D (wMR aJ aM.1 q.1 q.2.1 ++ (wMP cI aM q.2.2.1 q.2.2.2.1 q.2.2.2.2.1 ++ wTX cC aT vT0 vT1 vT2 q.2.2.2.2.2 vT4 vT5)) A) A) ([.ref aJ, .ref aT.1, .int i2, .int i3, .int i4] : List Value).toArray s 0 0 A) (F0 m 15 ls []) := by
    clear h hP hD hS hl
    intro nL15
    induction nL15 with
    | zero => intro c0_0 c0_1 c1_0 c1_1 c1_2 c2_3 y2 y3 y4 y5 H locs ls h; have h : (none : Option (Int32 × Int32 × (Nat → Int32) × (Nat → Int32) × Int32 × Int32)) = some q := h; cases h
    | succ nL15 ihL15 =>
      intro c0_0 c0_1 c1_0 c1_1 c1_2 c2_3 y2 y3 y4 y5 H locs ls h hP hD hS hl
      have h : pX4_addGroups_bL15 vT5 (pX4_addGroups_L15 vT5 nL15) c0_0 c0_1 c1_0 c1_1 c1_2 c2_3 y2 y3 y4 y5 = some q := h
      unfold pX4_addGroups_bL15 at h
      refine lv_iload hx hb dX4_addGroups_15 (lv_at hl 5 rfl) ?_
      refine lv_iload_n hx hb dX4_addGroups_17 rfl (lv_at hl 2 rfl) ?_
      refine lv_icmp_ge (tgt := 44) hx hb dX4_addGroups_18 (by decide) (fun g => ?_) (fun g => ?_)
      · rw [if_pos g] at h
        obtain rfl := Option.some.inj h
        exact W.vret hx hb hr (fun t ht hW => ⟨⟨(), rfl, trivial, by rw [ht]; exact hP, hD⟩, hS.F ht⟩) hS.2.2 dX4_addGroups_44
      · rw [if_neg g] at h
        refine lv_aload_n hx hb dX4_addGroups_21 rfl (lv_at hl 1 rfl) ?_
        obtain ⟨q4, h3, h⟩ := Option.bind_eq_some_iff.mp h
        refine kcir [4, 5] (va_runV (As := []) (rest := []) ⟨hx, hb, hml, hown, hts⟩ (kX8_hasFault l D cI cC cS aT vT0 vT1 vT2 c2_3 vT4 vT5 H.size h3) (cwV 0 hts gX4_addGroups_X8_hasFault rfl rfl rfl (by decide +kernel) ⟨Nat.le_of_ble_eq_true rfl, Nat.le_of_ble_eq_true rfl⟩) (kpreV hK hN hP hD [4, 5] rfl (by decide) 8 rfl rfl) rfl rfl hl.1 rfl (lv_room (Nat.le_of_ble_eq_true rfl)) dX4_addGroups_22 ⟨Nat.le_refl _, Nat.le_refl _⟩) hP hD hS hA rfl (fun H locs hP hS => ?_)
        refine lv_if_ne (tgt := 44) hx hb dX4_addGroups_25 (by decide) (fun g => ?_) (fun g => ?_)
        · rw [if_neg g] at h
          obtain rfl := Option.some.inj h
          exact W.vret hx hb hr (fun t ht hW => ⟨⟨(), rfl, trivial, by rw [ht]; exact hP, hD⟩, hS.F ht⟩) hS.2.2 dX4_addGroups_44
        · rw [if_pos g] at h
          refine lv_aload_n hx hb dX4_addGroups_28 rfl (lv_at hl 0 rfl) ?_
          refine va_get (D := D) (ci := 4) (v := .ref aM.1) (C := RX4) (T := TX4) (N := 3) hx hb hts huX4 hown hK hP 0 rfl rfl 0 (by decide) (hts (.fieldLink RX4 12 "VerseColumns$MapReader" "map" "LVerseColumns$GroupMap;") (by decide +kernel)) (fun _ h9 => h9) rfl dX4_addGroups_29 ?_
          refine lv_iload_n hx hb dX4_addGroups_32 rfl (lv_at hl 3 rfl) ?_
          refine lv_iload hx hb dX4_addGroups_33 (lv_at hl 4 rfl) ?_
          obtain ⟨q6, h5, h⟩ := Option.bind_eq_some_iff.mp h
          refine kcvw (ws' := (wMR aJ aM.1 c0_0 c0_1 ++ (wMP cI aM q6.1 q6.2.1 q6.2.2 ++ wTX cC aT vT0 vT1 vT2 c2_3 vT4 vT5))) [1, 2, 3] (va_runV (As := [.int y3, .int y4]) (rest := []) ⟨hx, hb, hml, hown, hts⟩ (kX1_append l D cI cC cS aM c1_0 c1_1 c1_2 y3 y4 H.size h5) (cwV 2 hts gX4_addGroups_X1_append rfl rfl rfl (by decide +kernel) ⟨Nat.le_of_ble_eq_true rfl, Nat.le_of_ble_eq_true rfl⟩) (kpreV hK hN hP hD [1, 2, 3] rfl (by decide) 1 rfl rfl) rfl rfl hl.1 rfl (lv_room (Nat.le_of_ble_eq_true rfl)) dX4_addGroups_35 ⟨Nat.le_refl _, Nat.le_refl _⟩) hP hD hS hA rfl (by decide) rfl [0, 1, 2, 3, 0, 0] (by decide +kernel) rfl (fun H locs hP hD hS => ?_)
          refine lv_iinc (v := (y5 + (1 : Int32))) (lv' := [(5, .int (y5 + (1 : Int32))), (0, .ref aJ), (1, .ref aT.1), (2, .int y2), (3, .int y3), (4, .int y4)]) hx hb dX4_addGroups_38 hl (k := 5) rfl rfl (by decide) rfl (fun ls hl => ?_)
          refine lv_goto (tgt := 15) hx hb dX4_addGroups_41 (by decide) ?_
          exact ihL15 c0_0 c0_1 q6.1 q6.2.1 q6.2.2 c2_3 y2 y3 y4 (y5 + (1 : Int32)) _ _ _ h hP hD hS (lv_sub hl [1, 2, 3, 4, 5, 0] rfl)
  unfold pX4_addGroups at h
  refine lv_aload_n hx hb dX4_addGroups_0 rfl (lv_at hl 0 rfl) ?_
  refine lv_aload_n hx hb dX4_addGroups_1 rfl (lv_at hl 1 rfl) ?_
  refine lv_iload_n hx hb dX4_addGroups_2 rfl (lv_at hl 2 rfl) ?_
  refine lv_iload_n hx hb dX4_addGroups_3 rfl (lv_at hl 3 rfl) ?_
  refine lv_imul hx hb dX4_addGroups_4 ?_
  refine lv_iload_n hx hb dX4_addGroups_5 rfl (lv_at hl 2 rfl) ?_
  refine lv_iload hx hb dX4_addGroups_6 (lv_at hl 4 rfl) ?_
  refine lv_imul hx hb dX4_addGroups_8 ?_
  obtain ⟨q2, h1, h⟩ := Option.bind_eq_some_iff.mp h
  refine kcvw (ws' := (wMR aJ aM.1 q2.1 q2.2.1 ++ (wMP cI aM vM0 vM1 vM2 ++ wTX cC aT vT0 vT1 vT2 q2.2.2 vT4 vT5))) [0, 4, 5] (va_runV (As := [.ref aT.1, .int (i2 * i3), .int (i2 * i4)]) (rest := []) ⟨hx, hb, hml, hown, hts⟩ (kX4_use l D cI cC cS aJ aM.1 vJ0 vJ1 aT vT0 vT1 vT2 vT3 vT4 vT5 (i2 * i3) (i2 * i4) s.heap.size h1) (cwV 3 hts gX4_addGroups_X4_use rfl rfl rfl (by decide +kernel) ⟨Nat.le_of_ble_eq_true rfl, Nat.le_of_ble_eq_true rfl⟩) (kpreV hK hN hP hD [0, 4, 5] rfl (by decide) 4 rfl rfl) rfl rfl hl.1 rfl (lv_room (Nat.le_of_ble_eq_true rfl)) dX4_addGroups_9 ⟨Nat.le_refl _, Nat.le_refl _⟩) hP hD hS hA rfl (by decide) rfl [1, 0, 0, 0, 2, 3] (by decide +kernel) rfl (fun H locs hP hD hS => ?_)
  refine lv_iconst (v := (0 : Int32)) hx hb dX4_addGroups_12 (by decide) ?_
  refine lv_istore (lv' := [(5, .int (0 : Int32)), (0, .ref aJ), (1, .ref aT.1), (2, .int i2), (3, .int i3), (4, .int i4)]) hx hb dX4_addGroups_13 hl (by decide) rfl (fun ls hl => ?_)
  exact L15 4000 q2.1 q2.2.1 vM0 vM1 vM2 q2.2.2 i2 i3 i4 (0 : Int32) _ _ _ h hP hD hS (lv_sub hl [1, 2, 3, 4, 5, 0] rfl)
set_option maxHeartbeats 8000000 in
set_option maxRecDepth 100000 in
theorem kX4_readItem (l : Launch) (D : va_G) (cI cC cS : ClassId) (aJ : Nat) (vJ0 : Int32) (vJ1 : Int32) (aM : Nat × Nat × Nat) (vM0 : (Nat → Int32)) (vM1 : (Nat → Int32)) (vM2 : Int32) (aT : Nat × Nat) (vT0 : (Nat → Int32)) (vT1 : Int32) (vT2 : Int32) (vT3 : Int32) (vT4 : Int32) (vT5 : Int32) (sz : Nat) {q : Int32 × Int32 × (Nat → Int32) × (Nat → Int32) × Int32 × Int32 × Int32 × Int32 × Int32} (h : pX4_readItem vJ0 vJ1 vM0 vM1 vM2 vT0 vT1 vT2 vT3 = some q) : kMv l yX4_readItem wsX4_readItem ({ frames := 4, cells := 0, slots := 0, locals := 91 } : Room) D (kTy cI cC cS) [.ref aJ, .ref aT.1] (wMR aJ aM.1 vJ0 vJ1 ++ (wMP cI aM vM0 vM1 vM2 ++ wTX cC aT vT0 vT1 vT2 vT3 vT4 vT5)) sz (wMR aJ aM.1 q.1 q.2.1 ++ (wMP cI aM q.2.2.1 q.2.2.2.1 q.2.2.2.2.1 ++ wTX cC aT vT0 vT1 q.2.2.2.2.2.1 q.2.2.2.2.2.2.1 q.2.2.2.2.2.2.2.1 q.2.2.2.2.2.2.2.2)) := by
  refine Met.ofW (cc := cX4_readItem) (maxL := 3) (ret := none) (by decide) rfl ?_
  intro p e s m args below meth c s₁ B hml hv
  obtain ⟨rfl, hsz, hP, hK, hD0, hN⟩ := hv
  have hx := B.exec
  have hb := B.bytes
  have hr := B.returns
  have hts := atoms_spec (ws := wsX4_readItem) B.pre
  have hown : s.vm.findClass RX4 = some m.cls := findClass_of_methodNamed B.named
  have hlocks := B.notSynchronized
  subst hsz
  have hD := hD0.self (sz := s.heap.size)
  generalize hAe : va_A (wMR aJ aM.1 vJ0 vJ1 ++ (wMP cI aM vM0 vM1 vM2 ++ wTX cC aT vT0 vT1 vT2 vT3 vT4 vT5)) s.heap.size = A at hD ⊢
  have hA : ∀ q : Nat, s.heap.size ≤ q → A q := fun q h => by rw [← hAe]; exact Or.inr h
  have hS : va_S A s.heap s.heap [] := va_S.rf
  have huX4 : ∀ w ∈ u_ws RX4 TX4 3, w ∈ wsX4_readItem := by decide +kernel
  have huX8 : ∀ w ∈ u_ws RX8 TX8 6, w ∈ wsX4_readItem := by decide +kernel
  have hl := lv_entry ([.ref aJ, .ref aT.1]) (n := 3) (Nat.le_of_ble_eq_true rfl)
  rw [lg_entry_eq]
  generalize (lg_sl ([.ref aJ, .ref aT.1]) ++ List.replicate (3 - (lg_sl ([.ref aJ, .ref aT.1])).length) Slot.unset).toArray = ls at hl ⊢
  have hl : lv_has ls 3 [(0, .ref aJ), (1, .ref aT.1)] := hl
  unfold pX4_readItem at h
  refine lv_aload_n hx hb dX4_readItem_0 rfl (lv_at hl 1 rfl) ?_
  obtain ⟨q2, h1, h⟩ := Option.bind_eq_some_iff.mp h
  refine kcvw (ws' := (wMR aJ aM.1 vJ0 vJ1 ++ (wMP cI aM vM0 vM1 vM2 ++ wTX cC aT vT0 vT1 q2.1 q2.2.1 q2.2.2.1 q2.2.2.2))) [4, 5] (va_runV (As := []) (rest := []) ⟨hx, hb, hml, hown, hts⟩ (kX8_readNumber l D cI cC cS aT vT0 vT1 vT2 vT3 vT4 vT5 s.heap.size h1) (cwV 0 hts gX4_readItem_X8_readNumber rfl rfl rfl (by decide +kernel) ⟨Nat.le_of_ble_eq_true rfl, Nat.le_of_ble_eq_true rfl⟩) (kpreV hK hN hP hD [4, 5] rfl (by decide) 8 rfl rfl) rfl rfl hl.1 rfl (lv_room (Nat.le_of_ble_eq_true rfl)) dX4_readItem_1 ⟨Nat.le_refl _, Nat.le_refl _⟩) hP hD hS hA rfl (by decide) rfl [0, 0, 0, 0, 1, 2] (by decide +kernel) rfl (fun H locs hP hD hS => ?_)
  refine lv_aload_n hx hb dX4_readItem_4 rfl (lv_at hl 1 rfl) ?_
  refine va_getN (D := D) (ci := 8) (v := .int q2.2.2.1) (C := RX8) (T := TX8) (N := 6) hx hb hts huX8 hown hK hP 4 rfl rfl 4 (by decide) (hN.f 19 rfl) (fun _ h9 => h9) rfl dX4_readItem_5 ?_
  refine lv_istore_n (lv' := [(2, .int q2.2.2.1), (0, .ref aJ), (1, .ref aT.1)]) hx hb dX4_readItem_8 rfl hl (by decide) rfl (fun ls hl => ?_)
  refine lv_aload_n hx hb dX4_readItem_9 rfl (lv_at hl 2 rfl) ?_
  obtain ⟨q4, h3, h⟩ := Option.bind_eq_some_iff.mp h
  refine kciw (ws' := (wMR aJ aM.1 vJ0 vJ1 ++ (wMP cI aM vM0 vM1 vM2 ++ wTX cC aT vT0 vT1 q4.2.1 q4.2.2 q2.2.2.1 q2.2.2.2))) [4, 5] (va_runV (As := []) (rest := []) ⟨hx, hb, hml, hown, hts⟩ (kX8_readSign l D cI cC cS aT vT0 vT1 q2.1 q2.2.1 q2.2.2.1 q2.2.2.2 H.size h3) (cwV 0 hts gX4_readItem_X8_readSign rfl rfl rfl (by decide +kernel) ⟨Nat.le_of_ble_eq_true rfl, Nat.le_of_ble_eq_true rfl⟩) (kpreV hK hN hP hD [4, 5] rfl (by decide) 8 rfl rfl) rfl rfl hl.1 rfl (lv_room (Nat.le_of_ble_eq_true rfl)) dX4_readItem_10 ⟨Nat.le_refl _, Nat.le_refl _⟩) hP hD hS hA rfl (by decide) rfl [0, 0, 0, 0, 1, 2] (by decide +kernel) rfl (fun H locs hP hD hS => ?_)
  by_cases g43 : q4.1 = 43
  · rw [if_pos g43] at h
    have e : q4.1.toInt = 43 := by rw [g43]; rfl
    refine lv_lookup hx hb dX4_readItem_13 (by decide) (off := 76) (tgt := 89) (by rw [e]; rfl) (by decide) ?_
    refine lv_aload_n hx hb dX4_readItem_89 rfl (lv_at hl 1 rfl) ?_
    refine lv_aload_n hx hb dX4_readItem_90 rfl (lv_at hl 2 rfl) ?_
    refine lv_iload_n hx hb dX4_readItem_91 rfl (lv_at hl 0 rfl) ?_
    refine lv_iconst (v := (0 : Int32)) hx hb dX4_readItem_92 (by decide) ?_
    obtain ⟨q6, h5, h⟩ := Option.bind_eq_some_iff.mp h
    refine kcvw (ws' := (wMR aJ aM.1 q6.1 q6.2.1 ++ (wMP cI aM vM0 vM1 vM2 ++ wTX cC aT vT0 vT1 q4.2.1 q6.2.2 q2.2.2.1 q2.2.2.2))) [0, 4, 5] (va_runV (As := [.ref aT.1, .int q2.2.2.1, .int (0 : Int32)]) (rest := []) ⟨hx, hb, hml, hown, hts⟩ (kX4_use l D cI cC cS aJ aM.1 vJ0 vJ1 aT vT0 vT1 q4.2.1 q4.2.2 q2.2.2.1 q2.2.2.2 q2.2.2.1 (0 : Int32) H.size h5) (cwV 3 hts gX4_readItem_X4_use rfl rfl rfl (by decide +kernel) ⟨Nat.le_of_ble_eq_true rfl, Nat.le_of_ble_eq_true rfl⟩) (kpreV hK hN hP hD [0, 4, 5] rfl (by decide) 4 rfl rfl) rfl rfl hl.1 rfl (lv_room (Nat.le_of_ble_eq_true rfl)) dX4_readItem_93 ⟨Nat.le_refl _, Nat.le_refl _⟩) hP hD hS hA rfl (by decide) rfl [1, 0, 0, 0, 2, 3] (by decide +kernel) rfl (fun H locs hP hD hS => ?_)
    refine lv_aload_n hx hb dX4_readItem_96 rfl (lv_at hl 2 rfl) ?_
    obtain ⟨q8, h7, h⟩ := Option.bind_eq_some_iff.mp h
    refine kcvw (ws' := (wMR aJ aM.1 q6.1 q6.2.1 ++ (wMP cI aM vM0 vM1 vM2 ++ wTX cC aT vT0 vT1 q8.1 q8.2.1 q8.2.2.1 q8.2.2.2))) [4, 5] (va_runV (As := []) (rest := []) ⟨hx, hb, hml, hown, hts⟩ (kX8_readNumber l D cI cC cS aT vT0 vT1 q4.2.1 q6.2.2 q2.2.2.1 q2.2.2.2 H.size h7) (cwV 0 hts gX4_readItem_X8_readNumber rfl rfl rfl (by decide +kernel) ⟨Nat.le_of_ble_eq_true rfl, Nat.le_of_ble_eq_true rfl⟩) (kpreV hK hN hP hD [4, 5] rfl (by decide) 8 rfl rfl) rfl rfl hl.1 rfl (lv_room (Nat.le_of_ble_eq_true rfl)) dX4_readItem_97 ⟨Nat.le_refl _, Nat.le_refl _⟩) hP hD hS hA rfl (by decide) rfl [0, 0, 0, 0, 1, 2] (by decide +kernel) rfl (fun H locs hP hD hS => ?_)
    refine lv_aload_n hx hb dX4_readItem_100 rfl (lv_at hl 1 rfl) ?_
    refine lv_aload_n hx hb dX4_readItem_101 rfl (lv_at hl 2 rfl) ?_
    refine lv_iconst (v := (0 : Int32)) hx hb dX4_readItem_102 (by decide) ?_
    refine lv_aload_n hx hb dX4_readItem_103 rfl (lv_at hl 2 rfl) ?_
    refine va_getN (D := D) (ci := 8) (v := .int q8.2.2.1) (C := RX8) (T := TX8) (N := 6) hx hb hts huX8 hown hK hP 4 rfl rfl 4 (by decide) (hN.f 19 rfl) (fun _ h9 => h9) rfl dX4_readItem_104 ?_
    obtain ⟨q10, h9, h⟩ := Option.bind_eq_some_iff.mp h
    refine kcvw (ws' := (wMR aJ aM.1 q10.1 q10.2.1 ++ (wMP cI aM vM0 vM1 vM2 ++ wTX cC aT vT0 vT1 q8.1 q10.2.2 q8.2.2.1 q8.2.2.2))) [0, 4, 5] (va_runV (As := [.ref aT.1, .int (0 : Int32), .int q8.2.2.1]) (rest := []) ⟨hx, hb, hml, hown, hts⟩ (kX4_use l D cI cC cS aJ aM.1 q6.1 q6.2.1 aT vT0 vT1 q8.1 q8.2.1 q8.2.2.1 q8.2.2.2 (0 : Int32) q8.2.2.1 H.size h9) (cwV 3 hts gX4_readItem_X4_use rfl rfl rfl (by decide +kernel) ⟨Nat.le_of_ble_eq_true rfl, Nat.le_of_ble_eq_true rfl⟩) (kpreV hK hN hP hD [0, 4, 5] rfl (by decide) 4 rfl rfl) rfl rfl hl.1 rfl (lv_room (Nat.le_of_ble_eq_true rfl)) dX4_readItem_107 ⟨Nat.le_refl _, Nat.le_refl _⟩) hP hD hS hA rfl (by decide) rfl [1, 0, 0, 0, 2, 3] (by decide +kernel) rfl (fun H locs hP hD hS => ?_)
    refine lv_aload_n hx hb dX4_readItem_110 rfl (lv_at hl 1 rfl) ?_
    refine va_get (D := D) (ci := 4) (v := .ref aM.1) (C := RX4) (T := TX4) (N := 3) hx hb hts huX4 hown hK hP 0 rfl rfl 0 (by decide) (hts (.fieldLink RX4 12 "VerseColumns$MapReader" "map" "LVerseColumns$GroupMap;") (by decide +kernel)) (fun _ h9 => h9) rfl dX4_readItem_111 ?_
    refine lv_iload_n hx hb dX4_readItem_114 rfl (lv_at hl 0 rfl) ?_
    refine lv_aload_n hx hb dX4_readItem_115 rfl (lv_at hl 2 rfl) ?_
    refine va_getN (D := D) (ci := 8) (v := .int q8.2.2.1) (C := RX8) (T := TX8) (N := 6) hx hb hts huX8 hown hK hP 4 rfl rfl 4 (by decide) (hN.f 19 rfl) (fun _ h9 => h9) rfl dX4_readItem_116 ?_
    obtain ⟨q12, h11, h⟩ := Option.bind_eq_some_iff.mp h
    refine kcvw (ws' := (wMR aJ aM.1 q10.1 q10.2.1 ++ (wMP cI aM q12.1 q12.2.1 q12.2.2 ++ wTX cC aT vT0 vT1 q8.1 q10.2.2 q8.2.2.1 q8.2.2.2))) [1, 2, 3] (va_runV (As := [.int q2.2.2.1, .int q8.2.2.1]) (rest := []) ⟨hx, hb, hml, hown, hts⟩ (kX1_append l D cI cC cS aM vM0 vM1 vM2 q2.2.2.1 q8.2.2.1 H.size h11) (cwV 2 hts gX4_readItem_X1_append rfl rfl rfl (by decide +kernel) ⟨Nat.le_of_ble_eq_true rfl, Nat.le_of_ble_eq_true rfl⟩) (kpreV hK hN hP hD [1, 2, 3] rfl (by decide) 1 rfl rfl) rfl rfl hl.1 rfl (lv_room (Nat.le_of_ble_eq_true rfl)) dX4_readItem_119 ⟨Nat.le_refl _, Nat.le_refl _⟩) hP hD hS hA rfl (by decide) rfl [0, 1, 2, 3, 0, 0] (by decide +kernel) rfl (fun H locs hP hD hS => ?_)
    refine lv_goto (tgt := 125) hx hb dX4_readItem_122 (by decide) ?_
    obtain rfl := Option.some.inj h
    exact W.vret hx hb hr (fun t ht hW => ⟨⟨(), rfl, trivial, by rw [ht]; exact hP, hD⟩, hS.F ht⟩) hS.2.2 dX4_readItem_125
  · rw [if_neg g43] at h
    by_cases g60 : q4.1 = 60
    · rw [if_pos g60] at h
      have e : q4.1.toInt = 60 := by rw [g60]; rfl
      refine lv_lookup hx hb dX4_readItem_13 (by decide) (off := 54) (tgt := 67) (by rw [e]; rfl) (by decide) ?_
      refine lv_aload_n hx hb dX4_readItem_67 rfl (lv_at hl 1 rfl) ?_
      refine lv_aload_n hx hb dX4_readItem_68 rfl (lv_at hl 2 rfl) ?_
      refine lv_iload_n hx hb dX4_readItem_69 rfl (lv_at hl 0 rfl) ?_
      refine lv_iconst (v := (1 : Int32)) hx hb dX4_readItem_70 (by decide) ?_
      refine lv_iconst (v := (0 : Int32)) hx hb dX4_readItem_71 (by decide) ?_
      obtain ⟨q14, h13, h⟩ := Option.bind_eq_some_iff.mp h
      refine kcvw (ws' := (wMR aJ aM.1 q14.1 q14.2.1 ++ (wMP cI aM q14.2.2.1 q14.2.2.2.1 q14.2.2.2.2.1 ++ wTX cC aT vT0 vT1 q4.2.1 q14.2.2.2.2.2 q2.2.2.1 q2.2.2.2))) [0, 1, 2, 3, 4, 5] (va_runV (As := [.ref aT.1, .int q2.2.2.1, .int (1 : Int32), .int (0 : Int32)]) (rest := []) ⟨hx, hb, hml, hown, hts⟩ (kX4_addGroups l D cI cC cS aJ vJ0 vJ1 aM vM0 vM1 vM2 aT vT0 vT1 q4.2.1 q4.2.2 q2.2.2.1 q2.2.2.2 q2.2.2.1 (1 : Int32) (0 : Int32) H.size h13) (cwV 4 hts gX4_readItem_X4_addGroups rfl rfl rfl (by decide +kernel) ⟨Nat.le_of_ble_eq_true rfl, Nat.le_of_ble_eq_true rfl⟩) (kpreV hK hN hP hD [0, 1, 2, 3, 4, 5] rfl (by decide) 4 rfl rfl) rfl rfl hl.1 rfl (lv_room (Nat.le_of_ble_eq_true rfl)) dX4_readItem_72 ⟨Nat.le_refl _, Nat.le_refl _⟩) hP hD hS hA rfl (by decide) rfl [1, 2, 3, 4, 5, 6] (by decide +kernel) rfl (fun H locs hP hD hS => ?_)
      refine lv_goto (tgt := 125) hx hb dX4_readItem_75 (by decide) ?_
      obtain rfl := Option.some.inj h
      exact W.vret hx hb hr (fun t ht hW => ⟨⟨(), rfl, trivial, by rw [ht]; exact hP, hD⟩, hS.F ht⟩) hS.2.2 dX4_readItem_125
    · rw [if_neg g60] at h
      by_cases g61 : q4.1 = 61
      · rw [if_pos g61] at h
        have e : q4.1.toInt = 61 := by rw [g61]; rfl
        refine lv_lookup hx hb dX4_readItem_13 (by decide) (off := 43) (tgt := 56) (by rw [e]; rfl) (by decide) ?_
        refine lv_aload_n hx hb dX4_readItem_56 rfl (lv_at hl 1 rfl) ?_
        refine lv_aload_n hx hb dX4_readItem_57 rfl (lv_at hl 2 rfl) ?_
        refine lv_iload_n hx hb dX4_readItem_58 rfl (lv_at hl 0 rfl) ?_
        refine lv_iconst (v := (1 : Int32)) hx hb dX4_readItem_59 (by decide) ?_
        refine lv_iconst (v := (1 : Int32)) hx hb dX4_readItem_60 (by decide) ?_
        obtain ⟨q16, h15, h⟩ := Option.bind_eq_some_iff.mp h
        refine kcvw (ws' := (wMR aJ aM.1 q16.1 q16.2.1 ++ (wMP cI aM q16.2.2.1 q16.2.2.2.1 q16.2.2.2.2.1 ++ wTX cC aT vT0 vT1 q4.2.1 q16.2.2.2.2.2 q2.2.2.1 q2.2.2.2))) [0, 1, 2, 3, 4, 5] (va_runV (As := [.ref aT.1, .int q2.2.2.1, .int (1 : Int32), .int (1 : Int32)]) (rest := []) ⟨hx, hb, hml, hown, hts⟩ (kX4_addGroups l D cI cC cS aJ vJ0 vJ1 aM vM0 vM1 vM2 aT vT0 vT1 q4.2.1 q4.2.2 q2.2.2.1 q2.2.2.2 q2.2.2.1 (1 : Int32) (1 : Int32) H.size h15) (cwV 4 hts gX4_readItem_X4_addGroups rfl rfl rfl (by decide +kernel) ⟨Nat.le_of_ble_eq_true rfl, Nat.le_of_ble_eq_true rfl⟩) (kpreV hK hN hP hD [0, 1, 2, 3, 4, 5] rfl (by decide) 4 rfl rfl) rfl rfl hl.1 rfl (lv_room (Nat.le_of_ble_eq_true rfl)) dX4_readItem_61 ⟨Nat.le_refl _, Nat.le_refl _⟩) hP hD hS hA rfl (by decide) rfl [1, 2, 3, 4, 5, 6] (by decide +kernel) rfl (fun H locs hP hD hS => ?_)
        refine lv_goto (tgt := 125) hx hb dX4_readItem_64 (by decide) ?_
        obtain rfl := Option.some.inj h
        exact W.vret hx hb hr (fun t ht hW => ⟨⟨(), rfl, trivial, by rw [ht]; exact hP, hD⟩, hS.F ht⟩) hS.2.2 dX4_readItem_125
      · rw [if_neg g61] at h
        by_cases g62 : q4.1 = 62
        · rw [if_pos g62] at h
          have e : q4.1.toInt = 62 := by rw [g62]; rfl
          refine lv_lookup hx hb dX4_readItem_13 (by decide) (off := 65) (tgt := 78) (by rw [e]; rfl) (by decide) ?_
          refine lv_aload_n hx hb dX4_readItem_78 rfl (lv_at hl 1 rfl) ?_
          refine lv_aload_n hx hb dX4_readItem_79 rfl (lv_at hl 2 rfl) ?_
          refine lv_iload_n hx hb dX4_readItem_80 rfl (lv_at hl 0 rfl) ?_
          refine lv_iconst (v := (0 : Int32)) hx hb dX4_readItem_81 (by decide) ?_
          refine lv_iconst (v := (1 : Int32)) hx hb dX4_readItem_82 (by decide) ?_
          obtain ⟨q18, h17, h⟩ := Option.bind_eq_some_iff.mp h
          refine kcvw (ws' := (wMR aJ aM.1 q18.1 q18.2.1 ++ (wMP cI aM q18.2.2.1 q18.2.2.2.1 q18.2.2.2.2.1 ++ wTX cC aT vT0 vT1 q4.2.1 q18.2.2.2.2.2 q2.2.2.1 q2.2.2.2))) [0, 1, 2, 3, 4, 5] (va_runV (As := [.ref aT.1, .int q2.2.2.1, .int (0 : Int32), .int (1 : Int32)]) (rest := []) ⟨hx, hb, hml, hown, hts⟩ (kX4_addGroups l D cI cC cS aJ vJ0 vJ1 aM vM0 vM1 vM2 aT vT0 vT1 q4.2.1 q4.2.2 q2.2.2.1 q2.2.2.2 q2.2.2.1 (0 : Int32) (1 : Int32) H.size h17) (cwV 4 hts gX4_readItem_X4_addGroups rfl rfl rfl (by decide +kernel) ⟨Nat.le_of_ble_eq_true rfl, Nat.le_of_ble_eq_true rfl⟩) (kpreV hK hN hP hD [0, 1, 2, 3, 4, 5] rfl (by decide) 4 rfl rfl) rfl rfl hl.1 rfl (lv_room (Nat.le_of_ble_eq_true rfl)) dX4_readItem_83 ⟨Nat.le_refl _, Nat.le_refl _⟩) hP hD hS hA rfl (by decide) rfl [1, 2, 3, 4, 5, 6] (by decide +kernel) rfl (fun H locs hP hD hS => ?_)
          refine lv_goto (tgt := 125) hx hb dX4_readItem_86 (by decide) ?_
          obtain rfl := Option.some.inj h
          exact W.vret hx hb hr (fun t ht hW => ⟨⟨(), rfl, trivial, by rw [ht]; exact hP, hD⟩, hS.F ht⟩) hS.2.2 dX4_readItem_125
        · rw [if_neg g62] at h
          refine lv_lookup hx hb dX4_readItem_13 (by decide) (off := 112) (tgt := 125) (by refine (lv_osw (k := (43 : Int32)) g43 rfl).trans ?_; refine (lv_osw (k := (60 : Int32)) g60 rfl).trans ?_; refine (lv_osw (k := (61 : Int32)) g61 rfl).trans ?_; refine (lv_osw (k := (62 : Int32)) g62 rfl).trans ?_; rfl) (by decide) ?_
          obtain rfl := Option.some.inj h
          exact W.vret hx hb hr (fun t ht hW => ⟨⟨(), rfl, trivial, by rw [ht]; exact hP, hD⟩, hS.F ht⟩) hS.2.2 dX4_readItem_125
set_option maxHeartbeats 8000000 in
set_option maxRecDepth 100000 in
theorem kX4_read (l : Launch) (D : va_G) (cI cC cS : ClassId) (aJ : Nat) (vJ0 : Int32) (vJ1 : Int32) (aM : Nat × Nat × Nat) (vM0 : (Nat → Int32)) (vM1 : (Nat → Int32)) (vM2 : Int32) (aT : Nat × Nat) (vT0 : (Nat → Int32)) (vT1 : Int32) (vT2 : Int32) (vT3 : Int32) (vT4 : Int32) (vT5 : Int32) (aS : Nat) (xS2 : Nat) (aL : Nat × Nat × Nat × Nat) (vL0 : (Nat → Int32)) (vL1 : (Nat → Int32)) (vL2 : (Nat → Int32)) (vL3 : Int32) (aR : Nat × Nat × Nat × Nat) (vR0 : (Nat → Int32)) (vR1 : (Nat → Int32)) (vR2 : (Nat → Int32)) (vR3 : Int32) (sz : Nat) {q : Int32 × Int32 × Int32 × (Nat → Int32) × (Nat → Int32) × Int32 × Int32 × Int32 × Int32 × Int32} (h : pX4_read vM0 vM1 vT0 vT1 vL3 vR3 = some q) : kMi l yX4_read wsX4_read ({ frames := 5, cells := 0, slots := 0, locals := 113 } : Room) D (kTy cI cC cS) [.ref aJ, .ref aT.1, .ref aS] (wMR aJ aM.1 vJ0 vJ1 ++ (wMP cI aM vM0 vM1 vM2 ++ (wTX cC aT vT0 vT1 vT2 vT3 vT4 vT5 ++ (wSC aS aL.1 aR.1 xS2 ++ (wBK cI aL vL0 vL1 vL2 vL3 ++ wBK cI aR vR0 vR1 vR2 vR3))))) sz q.1 (wMR aJ aM.1 q.2.1 q.2.2.1 ++ (wMP cI aM q.2.2.2.1 q.2.2.2.2.1 q.2.2.2.2.2.1 ++ (wTX cC aT vT0 vT1 q.2.2.2.2.2.2.1 q.2.2.2.2.2.2.2.1 q.2.2.2.2.2.2.2.2.1 q.2.2.2.2.2.2.2.2.2 ++ (wSC aS aL.1 aR.1 xS2 ++ (wBK cI aL vL0 vL1 vL2 vL3 ++ wBK cI aR vR0 vR1 vR2 vR3))))) := by
  refine Met.ofW (cc := cX4_read) (maxL := 4) (ret := (some .int)) (by decide) rfl ?_
  intro p e s m args below meth c s₁ B hml hv
  obtain ⟨rfl, hsz, hP, hK, hD0, hN⟩ := hv
  have hx := B.exec
  have hb := B.bytes
  have hr := B.returns
  have hts := atoms_spec (ws := wsX4_read) B.pre
  have hown : s.vm.findClass RX4 = some m.cls := findClass_of_methodNamed B.named
  have hlocks := B.notSynchronized
  subst hsz
  have hD := hD0.self (sz := s.heap.size)
  generalize hAe : va_A (wMR aJ aM.1 vJ0 vJ1 ++ (wMP cI aM vM0 vM1 vM2 ++ (wTX cC aT vT0 vT1 vT2 vT3 vT4 vT5 ++ (wSC aS aL.1 aR.1 xS2 ++ (wBK cI aL vL0 vL1 vL2 vL3 ++ wBK cI aR vR0 vR1 vR2 vR3))))) s.heap.size = A at hD ⊢
  have hA : ∀ q : Nat, s.heap.size ≤ q → A q := fun q h => by rw [← hAe]; exact Or.inr h
  have hS : va_S A s.heap s.heap [] := va_S.rf
  have huX0 : ∀ w ∈ u_ws RX0 TX0 4, w ∈ wsX4_read := by decide +kernel
  have huX4 : ∀ w ∈ u_ws RX4 TX4 3, w ∈ wsX4_read := by decide +kernel
  have huX7 : ∀ w ∈ u_ws RX7 TX7 3, w ∈ wsX4_read := by decide +kernel
  have huX8 : ∀ w ∈ u_ws RX8 TX8 6, w ∈ wsX4_read := by decide +kernel
  have hl := lv_entry ([.ref aJ, .ref aT.1, .ref aS]) (n := 4) (Nat.le_of_ble_eq_true rfl)
  rw [lg_entry_eq]
  generalize (lg_sl ([.ref aJ, .ref aT.1, .ref aS]) ++ List.replicate (4 - (lg_sl ([.ref aJ, .ref aT.1, .ref aS])).length) Slot.unset).toArray = ls at hl ⊢
  have hl : lv_has ls 4 [(0, .ref aJ), (1, .ref aT.1), (2, .ref aS)] := hl
  have j84 : ∀ (c0_0 : Int32) (c0_1 : Int32) (c1_0 : (Nat → Int32)) (c1_1 : (Nat → Int32)) (c1_2 : Int32) (c2_2 : Int32) (c2_3 : Int32) (c2_4 : Int32) (c2_5 : Int32) (H : Heap) (locs : List Loc) (ls : Array Slot), pX4_read_j84 vT0 vT1 vL3 vR3 c0_0 c0_1 c1_0 c1_1 c1_2 c2_2 c2_3 c2_4 c2_5 = some q → va_P D vwCl (wMR aJ aM.1 c0_0 c0_1 ++ (wMP cI aM c1_0 c1_1 c1_2 ++ (wTX cC aT vT0 vT1 c2_2 c2_3 c2_4 c2_5 ++ (wSC aS aL.1 aR.1 xS2 ++ (wBK cI aL vL0 vL1 vL2 vL3 ++ wBK cI aR vR0 vR1 vR2 vR3))))) H → va_D A (wMR aJ aM.1 c0_0 c0_1 ++ (wMP cI aM c1_0 c1_1 c1_2 ++ (wTX cC aT vT0 vT1 c2_2 c2_3 c2_4 c2_5 ++ (wSC aS aL.1 aR.1 xS2 ++ (wBK cI aL vL0 vL1 vL2 vL3 ++ wBK cI aR vR0 vR1 vR2 vR3))))) → va_S A s.heap H locs → lv_has ls 4 [(1, .ref aT.1)] → W p l e ({ frames := 5, cells := 0, slots := 0, locals := 113 } : Room) s m ([.ref aJ, .ref aT.1, .ref aS] : List Value).toArray below meth c H locs 0 0 (MQ below (va_Qi (fun (r : Int32) (_ : Unit) => r = q.1) (fun _ => kPost D (wMR aJ aM.1 q.2.1 q.2.2.1 ++ (wMP cI aM q.2.2.2.1 q.2.2.2.2.1 q.2.2.2.2.2.1 ++ (wTX cC aT vT0 vT1 q.2.2.2.2.2.2.1 q.2.2.2.2.2.2.2.1 q.2.2.2.2.2.2.2.2.1 q.2.2.2.2.2.2.2.2.2 ++ (wSC aS aL.1 aR.1 xS2 ++ (wBK cI aL vL0 vL1 vL2 vL3 ++ wBK cI aR vR0 vR1 vR2 vR3))))) A) A) ([.ref aJ, .ref aT.1, .ref aS] : List Value).toArray s 0 0 A) (F0 m 84 ls []) := by
    clear h hP hD hS hl
    intro c0_0 c0_1 c1_0 c1_1 c1_2 c2_2 c2_3 c2_4 c2_5 H locs ls h hP hD hS hl
    unfold pX4_read_j84 at h
    refine lv_aload_n hx hb dX4_read_84 rfl (lv_at hl 0 rfl) ?_
    refine lv_aload_n hx hb dX4_read_85 rfl (lv_at hl 0 rfl) ?_
    refine va_getN (D := D) (ci := 8) (v := .int vT1) (C := RX8) (T := TX8) (N := 6) hx hb hts huX8 hown hK hP 4 rfl rfl 1 (by decide) (hN.f 14 rfl) (fun _ h9 => h9) rfl dX4_read_86 ?_
    obtain ⟨q8, h7, h⟩ := Option.bind_eq_some_iff.mp h
    refine kcvw (ws' := (wMR aJ aM.1 c0_0 c0_1 ++ (wMP cI aM c1_0 c1_1 c1_2 ++ (wTX cC aT vT0 vT1 c2_2 q8 c2_4 c2_5 ++ (wSC aS aL.1 aR.1 xS2 ++ (wBK cI aL vL0 vL1 vL2 vL3 ++ wBK cI aR vR0 vR1 vR2 vR3)))))) [4, 5] (va_runV (As := [.int vT1]) (rest := []) ⟨hx, hb, hml, hown, hts⟩ (kX8_failAt l D cI cC cS aT vT0 vT1 c2_2 c2_3 c2_4 c2_5 vT1 H.size h7) (cwV 1 hts gX4_read_X8_failAt rfl rfl rfl (by decide +kernel) ⟨Nat.le_of_ble_eq_true rfl, Nat.le_of_ble_eq_true rfl⟩) (kpreV hK hN hP hD [4, 5] rfl (by decide) 8 rfl rfl) rfl rfl hl.1 rfl (lv_room (Nat.le_of_ble_eq_true rfl)) dX4_read_89 ⟨Nat.le_refl _, Nat.le_refl _⟩) hP hD hS hA rfl (by decide) rfl [0, 0, 0, 0, 1, 2, 0, 0, 0, 0, 0, 0, 0, 0, 0] (by decide +kernel) rfl (fun H locs hP hD hS => ?_)
    refine lv_aload_n hx hb dX4_read_92 rfl (lv_at hl 0 rfl) ?_
    refine va_getN (D := D) (ci := 8) (v := .int q8) (C := RX8) (T := TX8) (N := 6) hx hb hts huX8 hown hK hP 4 rfl rfl 3 (by decide) (hN.f 18 rfl) (fun _ h9 => h9) rfl dX4_read_93 ?_
    obtain rfl := Option.some.inj h
    exact W.iret (v := q8) hx hb hr (fun t ht hW => ⟨⟨_, (), rfl, rfl, by rw [ht]; exact hP, hD⟩, hS.F ht⟩) hS.2.2 dX4_read_96
  have j70 : ∀ (c0_0 : Int32) (c0_1 : Int32) (c1_0 : (Nat → Int32)) (c1_1 : (Nat → Int32)) (c1_2 : Int32) (c2_2 : Int32) (c2_3 : Int32) (c2_4 : Int32) (c2_5 : Int32) (H : Heap) (locs : List Loc) (ls : Array Slot), pX4_read_j70 vT0 vT1 vL3 vR3 c0_0 c0_1 c1_0 c1_1 c1_2 c2_2 c2_3 c2_4 c2_5 = some q → va_P D vwCl (wMR aJ aM.1 c0_0 c0_1 ++ (wMP cI aM c1_0 c1_1 c1_2 ++ (wTX cC aT vT0 vT1 c2_2 c2_3 c2_4 c2_5 ++ (wSC aS aL.1 aR.1 xS2 ++ (wBK cI aL vL0 vL1 vL2 vL3 ++ wBK cI aR vR0 vR1 vR2 vR3))))) H → va_D A (wMR aJ aM.1 c0_0 c0_1 ++ (wMP cI aM c1_0 c1_1 c1_2 ++ (wTX cC aT vT0 vT1 c2_2 c2_3 c2_4 c2_5 ++ (wSC aS aL.1 aR.1 xS2 ++ (wBK cI aL vL0 vL1 vL2 vL3 ++ wBK cI aR vR0 vR1 vR2 vR3))))) → va_S A s.heap H locs → lv_has ls 4 [(0, .ref aJ), (1, .ref aT.1)] → W p l e ({ frames := 5, cells := 0, slots := 0, locals := 113 } : Room) s m ([.ref aJ, .ref aT.1, .ref aS] : List Value).toArray below meth c H locs 0 0 (MQ below (va_Qi (fun (r : Int32) (_ : Unit) => r = q.1) (fun _ => kPost D (wMR aJ aM.1 q.2.1 q.2.2.1 ++ (wMP cI aM q.2.2.2.1 q.2.2.2.2.1 q.2.2.2.2.2.1 ++ (wTX cC aT vT0 vT1 q.2.2.2.2.2.2.1 q.2.2.2.2.2.2.2.1 q.2.2.2.2.2.2.2.2.1 q.2.2.2.2.2.2.2.2.2 ++ (wSC aS aL.1 aR.1 xS2 ++ (wBK cI aL vL0 vL1 vL2 vL3 ++ wBK cI aR vR0 vR1 vR2 vR3))))) A) A) ([.ref aJ, .ref aT.1, .ref aS] : List Value).toArray s 0 0 A) (F0 m 70 ls []) := by
    clear h hP hD hS hl
    intro c0_0 c0_1 c1_0 c1_1 c1_2 c2_2 c2_3 c2_4 c2_5 H locs ls h hP hD hS hl
    unfold pX4_read_j70 at h
    refine lv_aload_n hx hb dX4_read_70 rfl (lv_at hl 0 rfl) ?_
    refine va_get (D := D) (ci := 4) (v := .int c0_0) (C := RX4) (T := TX4) (N := 3) hx hb hts huX4 hown hK hP 0 rfl rfl 1 (by decide) (hts (.fieldLink RX4 38 "VerseColumns$MapReader" "leftRest" "I") (by decide +kernel)) (fun _ h9 => h9) rfl dX4_read_71 ?_
    refine lv_if_gt (tgt := 84) hx hb dX4_read_74 (by decide) (fun g => ?_) (fun g => ?_)
    · rw [if_pos g] at h
      exact j84 c0_0 c0_1 c1_0 c1_1 c1_2 c2_2 c2_3 c2_4 c2_5 _ _ _ h hP hD hS (lv_sub hl [1] rfl)
    · rw [if_neg g] at h
      refine lv_aload_n hx hb dX4_read_77 rfl (lv_at hl 0 rfl) ?_
      refine va_get (D := D) (ci := 4) (v := .int c0_1) (C := RX4) (T := TX4) (N := 3) hx hb hts huX4 hown hK hP 0 rfl rfl 2 (by decide) (hts (.fieldLink RX4 44 "VerseColumns$MapReader" "rightRest" "I") (by decide +kernel)) (fun _ h9 => h9) rfl dX4_read_78 ?_
      refine lv_if_le (tgt := 92) hx hb dX4_read_81 (by decide) (fun g => ?_) (fun g => ?_)
      · rw [if_pos g] at h
        refine lv_aload_n hx hb dX4_read_92 rfl (lv_at hl 1 rfl) ?_
        refine va_getN (D := D) (ci := 8) (v := .int c2_3) (C := RX8) (T := TX8) (N := 6) hx hb hts huX8 hown hK hP 4 rfl rfl 3 (by decide) (hN.f 18 rfl) (fun _ h9 => h9) rfl dX4_read_93 ?_
        obtain rfl := Option.some.inj h
        exact W.iret (v := c2_3) hx hb hr (fun t ht hW => ⟨⟨_, (), rfl, rfl, by rw [ht]; exact hP, hD⟩, hS.F ht⟩) hS.2.2 dX4_read_96
      · rw [if_neg g] at h
        exact j84 c0_0 c0_1 c1_0 c1_1 c1_2 c2_2 c2_3 c2_4 c2_5 _ _ _ h hP hD hS (lv_sub hl [1] rfl)
  have L40 : ∀ (nL40 : Nat) (c0_0 : Int32) (c0_1 : Int32) (c1_0 : (Nat → Int32)) (c1_1 : (Nat → Int32)) (c1_2 : Int32) (c2_2 : Int32) (c2_3 : Int32) (c2_4 : Int32) (c2_5 : Int32) (y3 : Int32) (H : Heap) (locs : List Loc) (ls : Array Slot), pX4_read_L40 vT0 vT1 vL3 vR3 nL40 c0_0 c0_1 c1_0 c1_1 c1_2 c2_2 c2_3 c2_4 c2_5 y3 = some q → va_P D vwCl (wMR aJ aM.1 c0_0 c0_1 ++ (wMP cI aM c1_0 c1_1 c1_2 ++ (wTX cC aT vT0 vT1 c2_2 c2_3 c2_4 c2_5 ++ (wSC aS aL.1 aR.1 xS2 ++ (wBK cI aL vL0 vL1 vL2 vL3 ++ wBK cI aR vR0 vR1 vR2 vR3))))) H → va_D A (wMR aJ aM.1 c0_0 c0_1 ++ (wMP cI aM c1_0 c1_1 c1_2 ++ (wTX cC aT vT0 vT1 c2_2 c2_3 c2_4 c2_5 ++ (wSC aS aL.1 aR.1 xS2 ++ (wBK cI aL vL0 vL1 vL2 vL3 ++ wBK cI aR vR0 vR1 vR2 vR3))))) → va_S A s.heap H locs → lv_has ls 4 [(0, .ref aJ), (1, .ref aT.1), (3, .int y3)] → W p l e ({ frames := 5, cells := 0, slots := 0, locals := 113 } : Room) s m ([.ref aJ, .ref aT.1, .ref aS] : List Value).toArray below meth c H locs 0 0 (MQ below (va_Qi (fun (r : Int32) (_ : Unit) => r = q.1) (fun _ => kPost D (wMR aJ aM.1 q.2.1 q.2.2.1 ++ (wMP cI aM q.2.2.2.1 q.2.2.2.2.1 q.2.2.2.2.2.1 ++ (wTX cC aT vT0 vT1 q.2.2.2.2.2.2.1 q.2.2.2.2.2.2.2.1 q.2.2.2.2.2.2.2.2.1 q.2.2.2.2.2.2.2.2.2 ++ (wSC aS aL.1 aR.1 xS2 ++ (wBK cI aL vL0 vL1 vL2 vL3 ++ wBK cI aR vR0 vR1 vR2 vR3))))) A) A) ([.ref aJ, .ref aT.1, .ref aS] : List Value).toArray s 0 0 A) (F0 m 40 ls []) := by
    clear h hP hD hS hl
    intro nL40
    induction nL40 with
    | zero => intro c0_0 c0_1 c1_0 c1_1 c1_2 c2_2 c2_3 c2_4 c2_5 y3 H locs ls h; have h : (none : Option (Int32 × Int32 × Int32 × (Nat → Int32) × (Nat → Int32) × Int32 × Int32 × Int32 × Int32 × Int32)) = some q := h; cases h
    | succ nL40 ihL40 =>
      intro c0_0 c0_1 c1_0 c1_1 c1_2 c2_2 c2_3 c2_4 c2_5 y3 H locs ls h hP hD hS hl
      have h : pX4_read_bL40 vT0 vT1 vL3 vR3 (pX4_read_L40 vT0 vT1 vL3 vR3 nL40) c0_0 c0_1 c1_0 c1_1 c1_2 c2_2 c2_3 c2_4 c2_5 y3 = some q := h
      unfold pX4_read_bL40 at h
      refine lv_iload_n hx hb dX4_read_40 rfl (lv_at hl 2 rfl) ?_
      refine lv_bipush (v := (80 : Int32)) hx hb dX4_read_41 (by decide) ?_
      refine lv_icmp_ge (tgt := 70) hx hb dX4_read_43 (by decide) (fun g => ?_) (fun g => ?_)
      · rw [if_pos g] at h
        exact j70 c0_0 c0_1 c1_0 c1_1 c1_2 c2_2 c2_3 c2_4 c2_5 _ _ _ h hP hD hS (lv_sub hl [0, 1] rfl)
      · rw [if_neg g] at h
        refine lv_aload_n hx hb dX4_read_46 rfl (lv_at hl 1 rfl) ?_
        obtain ⟨q10, h9, h⟩ := Option.bind_eq_some_iff.mp h
        refine kcir [4, 5] (va_runV (As := []) (rest := []) ⟨hx, hb, hml, hown, hts⟩ (kX8_goesOn l D cI cC cS aT vT0 vT1 c2_2 c2_3 c2_4 c2_5 H.size h9) (cwV 0 hts gX4_read_X8_goesOn rfl rfl rfl (by decide +kernel) ⟨Nat.le_of_ble_eq_true rfl, Nat.le_of_ble_eq_true rfl⟩) (kpreV hK hN hP hD [4, 5] rfl (by decide) 8 rfl rfl) rfl rfl hl.1 rfl (lv_room (Nat.le_of_ble_eq_true rfl)) dX4_read_47 ⟨Nat.le_refl _, Nat.le_refl _⟩) hP hD hS hA rfl (fun H locs hP hS => ?_)
        refine lv_if_eq (tgt := 70) hx hb dX4_read_50 (by decide) (fun g => ?_) (fun g => ?_)
        · rw [if_pos g] at h
          exact j70 c0_0 c0_1 c1_0 c1_1 c1_2 c2_2 c2_3 c2_4 c2_5 _ _ _ h hP hD hS (lv_sub hl [0, 1] rfl)
        · rw [if_neg g] at h
          refine lv_aload_n hx hb dX4_read_53 rfl (lv_at hl 1 rfl) ?_
          refine lv_bipush (v := (44 : Int32)) hx hb dX4_read_54 (by decide) ?_
          obtain ⟨q12, h11, h⟩ := Option.bind_eq_some_iff.mp h
          refine kcvw (ws' := (wMR aJ aM.1 c0_0 c0_1 ++ (wMP cI aM c1_0 c1_1 c1_2 ++ (wTX cC aT vT0 vT1 q12.1 q12.2 c2_4 c2_5 ++ (wSC aS aL.1 aR.1 xS2 ++ (wBK cI aL vL0 vL1 vL2 vL3 ++ wBK cI aR vR0 vR1 vR2 vR3)))))) [4, 5] (va_runV (As := [.int (44 : Int32)]) (rest := []) ⟨hx, hb, hml, hown, hts⟩ (kX8_skip l D cI cC cS aT vT0 vT1 c2_2 c2_3 c2_4 c2_5 (44 : Int32) H.size h11) (cwV 1 hts gX4_read_X8_skip rfl rfl rfl (by decide +kernel) ⟨Nat.le_of_ble_eq_true rfl, Nat.le_of_ble_eq_true rfl⟩) (kpreV hK hN hP hD [4, 5] rfl (by decide) 8 rfl rfl) rfl rfl hl.1 rfl (lv_room (Nat.le_of_ble_eq_true rfl)) dX4_read_56 ⟨Nat.le_refl _, Nat.le_refl _⟩) hP hD hS hA rfl (by decide) rfl [0, 0, 0, 0, 1, 2, 0, 0, 0, 0, 0, 0, 0, 0, 0] (by decide +kernel) rfl (fun H locs hP hD hS => ?_)
          refine lv_aload_n hx hb dX4_read_59 rfl (lv_at hl 0 rfl) ?_
          refine lv_aload_n hx hb dX4_read_60 rfl (lv_at hl 1 rfl) ?_
          obtain ⟨q14, h13, h⟩ := Option.bind_eq_some_iff.mp h
          refine kcvw (ws' := (wMR aJ aM.1 q14.1 q14.2.1 ++ (wMP cI aM q14.2.2.1 q14.2.2.2.1 q14.2.2.2.2.1 ++ (wTX cC aT vT0 vT1 q14.2.2.2.2.2.1 q14.2.2.2.2.2.2.1 q14.2.2.2.2.2.2.2.1 q14.2.2.2.2.2.2.2.2 ++ (wSC aS aL.1 aR.1 xS2 ++ (wBK cI aL vL0 vL1 vL2 vL3 ++ wBK cI aR vR0 vR1 vR2 vR3)))))) [0, 1, 2, 3, 4, 5] (va_runV (As := [.ref aT.1]) (rest := []) ⟨hx, hb, hml, hown, hts⟩ (kX4_readItem l D cI cC cS aJ c0_0 c0_1 aM c1_0 c1_1 c1_2 aT vT0 vT1 q12.1 q12.2 c2_4 c2_5 H.size h13) (cwV 1 hts gX4_read_X4_readItem rfl rfl rfl (by decide +kernel) ⟨Nat.le_of_ble_eq_true rfl, Nat.le_of_ble_eq_true rfl⟩) (kpreV hK hN hP hD [0, 1, 2, 3, 4, 5] rfl (by decide) 4 rfl rfl) rfl rfl hl.1 rfl (lv_room (Nat.le_of_ble_eq_true rfl)) dX4_read_61 ⟨Nat.le_refl _, Nat.le_refl _⟩) hP hD hS hA rfl (by decide) rfl [1, 2, 3, 4, 5, 6, 0, 0, 0, 0, 0, 0, 0, 0, 0] (by decide +kernel) rfl (fun H locs hP hD hS => ?_)
          refine lv_iinc (v := (y3 + (1 : Int32))) (lv' := [(3, .int (y3 + (1 : Int32))), (0, .ref aJ), (1, .ref aT.1)]) hx hb dX4_read_64 hl (k := 2) rfl rfl (by decide) rfl (fun ls hl => ?_)
          refine lv_goto (tgt := 40) hx hb dX4_read_67 (by decide) ?_
          exact ihL40 q14.1 q14.2.1 q14.2.2.1 q14.2.2.2.1 q14.2.2.2.2.1 q14.2.2.2.2.2.1 q14.2.2.2.2.2.2.1 q14.2.2.2.2.2.2.2.1 q14.2.2.2.2.2.2.2.2 (y3 + (1 : Int32)) _ _ _ h hP hD hS (lv_sub hl [1, 2, 0] rfl)
  unfold pX4_read at h
  refine lv_aload_n hx hb dX4_read_0 rfl (lv_at hl 1 rfl) ?_
  obtain ⟨q2, h1, h⟩ := Option.bind_eq_some_iff.mp h
  refine kcvw (ws' := (wMR aJ aM.1 vJ0 vJ1 ++ (wMP cI aM vM0 vM1 vM2 ++ (wTX cC aT vT0 vT1 q2.1 q2.2.1 q2.2.2.1 q2.2.2.2 ++ (wSC aS aL.1 aR.1 xS2 ++ (wBK cI aL vL0 vL1 vL2 vL3 ++ wBK cI aR vR0 vR1 vR2 vR3)))))) [4, 5] (va_runV (As := []) (rest := []) ⟨hx, hb, hml, hown, hts⟩ (kX8_restart l D cI cC cS aT vT0 vT1 vT2 vT3 vT4 vT5 s.heap.size h1) (cwV 0 hts gX4_read_X8_restart rfl rfl rfl (by decide +kernel) ⟨Nat.le_of_ble_eq_true rfl, Nat.le_of_ble_eq_true rfl⟩) (kpreV hK hN hP hD [4, 5] rfl (by decide) 8 rfl rfl) rfl rfl hl.1 rfl (lv_room (Nat.le_of_ble_eq_true rfl)) dX4_read_1 ⟨Nat.le_refl _, Nat.le_refl _⟩) hP hD hS hA rfl (by decide) rfl [0, 0, 0, 0, 1, 2, 0, 0, 0, 0, 0, 0, 0, 0, 0] (by decide +kernel) rfl (fun H locs hP hD hS => ?_)
  refine lv_aload_n hx hb dX4_read_4 rfl (lv_at hl 0 rfl) ?_
  refine va_get (D := D) (ci := 4) (v := .ref aM.1) (C := RX4) (T := TX4) (N := 3) hx hb hts huX4 hown hK hP 0 rfl rfl 0 (by decide) (hts (.fieldLink RX4 12 "VerseColumns$MapReader" "map" "LVerseColumns$GroupMap;") (by decide +kernel)) (fun _ h9 => h9) rfl dX4_read_5 ?_
  obtain ⟨q4, h3, h⟩ := Option.bind_eq_some_iff.mp h
  refine kcvw (ws' := (wMR aJ aM.1 vJ0 vJ1 ++ (wMP cI aM vM0 vM1 q4 ++ (wTX cC aT vT0 vT1 q2.1 q2.2.1 q2.2.2.1 q2.2.2.2 ++ (wSC aS aL.1 aR.1 xS2 ++ (wBK cI aL vL0 vL1 vL2 vL3 ++ wBK cI aR vR0 vR1 vR2 vR3)))))) [1, 2, 3] (va_runV (As := []) (rest := []) ⟨hx, hb, hml, hown, hts⟩ (kX1_clear l D cI cC cS aM vM0 vM1 vM2 H.size h3) (cwV 0 hts gX4_read_X1_clear rfl rfl rfl (by decide +kernel) ⟨Nat.le_of_ble_eq_true rfl, Nat.le_of_ble_eq_true rfl⟩) (kpreV hK hN hP hD [1, 2, 3] rfl (by decide) 1 rfl rfl) rfl rfl hl.1 rfl (lv_room (Nat.le_of_ble_eq_true rfl)) dX4_read_8 ⟨Nat.le_refl _, Nat.le_refl _⟩) hP hD hS hA rfl (by decide) rfl [0, 1, 2, 3, 0, 0, 0, 0, 0, 0, 0, 0, 0, 0, 0] (by decide +kernel) rfl (fun H locs hP hD hS => ?_)
  refine lv_aload_n hx hb dX4_read_11 rfl (lv_at hl 0 rfl) ?_
  refine lv_aload_n hx hb dX4_read_12 rfl (lv_at hl 2 rfl) ?_
  refine va_getN (D := D) (ci := 7) (v := .ref aL.1) (C := RX7) (T := TX7) (N := 3) hx hb hts huX7 hown hK hP 6 rfl rfl 0 (by decide) (hN.f 5 rfl) (fun _ h9 => h9) rfl dX4_read_13 ?_
  refine va_getN (D := D) (ci := 0) (v := .int vL3) (C := RX0) (T := TX0) (N := 4) hx hb hts huX0 hown hK hP 7 rfl rfl 3 (by decide) (hN.f 0 rfl) (fun _ h9 => h9) rfl dX4_read_16 ?_
  refine va_put (D := D) (ci := 4) (v := .int vL3) (ty := .int) (C := RX4) (T := TX4) (N := 3) hx hb hts huX4 tyX4 tyX4_ok nmX4 hown hK hP hD hS 0 rfl rfl 1 (by decide) (hts (.fieldLink RX4 38 "VerseColumns$MapReader" "leftRest" "I") (by decide +kernel)) (fun _ h9 => h9) rfl (by decide +kernel) rfl rfl (Nat.le_of_ble_eq_true rfl) dX4_read_19 (fun H locs hP hD hS => ?_)
  have hP : va_P D vwCl (wMR aJ aM.1 vL3 vJ1 ++ (wMP cI aM vM0 vM1 q4 ++ (wTX cC aT vT0 vT1 q2.1 q2.2.1 q2.2.2.1 q2.2.2.2 ++ (wSC aS aL.1 aR.1 xS2 ++ (wBK cI aL vL0 vL1 vL2 vL3 ++ wBK cI aR vR0 vR1 vR2 vR3))))) H := hP
  have hD : va_D A (wMR aJ aM.1 vL3 vJ1 ++ (wMP cI aM vM0 vM1 q4 ++ (wTX cC aT vT0 vT1 q2.1 q2.2.1 q2.2.2.1 q2.2.2.2 ++ (wSC aS aL.1 aR.1 xS2 ++ (wBK cI aL vL0 vL1 vL2 vL3 ++ wBK cI aR vR0 vR1 vR2 vR3))))) := hD
  refine lv_aload_n hx hb dX4_read_22 rfl (lv_at hl 0 rfl) ?_
  refine lv_aload_n hx hb dX4_read_23 rfl (lv_at hl 2 rfl) ?_
  refine va_getN (D := D) (ci := 7) (v := .ref aR.1) (C := RX7) (T := TX7) (N := 3) hx hb hts huX7 hown hK hP 6 rfl rfl 1 (by decide) (hN.f 8 rfl) (fun _ h9 => h9) rfl dX4_read_24 ?_
  refine va_getN (D := D) (ci := 0) (v := .int vR3) (C := RX0) (T := TX0) (N := 4) hx hb hts huX0 hown hK hP 11 rfl rfl 3 (by decide) (hN.f 0 rfl) (fun _ h9 => h9) rfl dX4_read_27 ?_
  refine va_put (D := D) (ci := 4) (v := .int vR3) (ty := .int) (C := RX4) (T := TX4) (N := 3) hx hb hts huX4 tyX4 tyX4_ok nmX4 hown hK hP hD hS 0 rfl rfl 2 (by decide) (hts (.fieldLink RX4 44 "VerseColumns$MapReader" "rightRest" "I") (by decide +kernel)) (fun _ h9 => h9) rfl (by decide +kernel) rfl rfl (Nat.le_of_ble_eq_true rfl) dX4_read_30 (fun H locs hP hD hS => ?_)
  have hP : va_P D vwCl (wMR aJ aM.1 vL3 vR3 ++ (wMP cI aM vM0 vM1 q4 ++ (wTX cC aT vT0 vT1 q2.1 q2.2.1 q2.2.2.1 q2.2.2.2 ++ (wSC aS aL.1 aR.1 xS2 ++ (wBK cI aL vL0 vL1 vL2 vL3 ++ wBK cI aR vR0 vR1 vR2 vR3))))) H := hP
  have hD : va_D A (wMR aJ aM.1 vL3 vR3 ++ (wMP cI aM vM0 vM1 q4 ++ (wTX cC aT vT0 vT1 q2.1 q2.2.1 q2.2.2.1 q2.2.2.2 ++ (wSC aS aL.1 aR.1 xS2 ++ (wBK cI aL vL0 vL1 vL2 vL3 ++ wBK cI aR vR0 vR1 vR2 vR3))))) := hD
  refine lv_aload_n hx hb dX4_read_33 rfl (lv_at hl 0 rfl) ?_
  refine lv_aload_n hx hb dX4_read_34 rfl (lv_at hl 1 rfl) ?_
  obtain ⟨q6, h5, h⟩ := Option.bind_eq_some_iff.mp h
  refine kcvw (ws' := (wMR aJ aM.1 q6.1 q6.2.1 ++ (wMP cI aM q6.2.2.1 q6.2.2.2.1 q6.2.2.2.2.1 ++ (wTX cC aT vT0 vT1 q6.2.2.2.2.2.1 q6.2.2.2.2.2.2.1 q6.2.2.2.2.2.2.2.1 q6.2.2.2.2.2.2.2.2 ++ (wSC aS aL.1 aR.1 xS2 ++ (wBK cI aL vL0 vL1 vL2 vL3 ++ wBK cI aR vR0 vR1 vR2 vR3)))))) [0, 1, 2, 3, 4, 5] (va_runV (As := [.ref aT.1]) (rest := []) ⟨hx, hb, hml, hown, hts⟩ (kX4_readItem l D cI cC cS aJ vL3 vR3 aM vM0 vM1 q4 aT vT0 vT1 q2.1 q2.2.1 q2.2.2.1 q2.2.2.2 H.size h5) (cwV 1 hts gX4_read_X4_readItem rfl rfl rfl (by decide +kernel) ⟨Nat.le_of_ble_eq_true rfl, Nat.le_of_ble_eq_true rfl⟩) (kpreV hK hN hP hD [0, 1, 2, 3, 4, 5] rfl (by decide) 4 rfl rfl) rfl rfl hl.1 rfl (lv_room (Nat.le_of_ble_eq_true rfl)) dX4_read_35 ⟨Nat.le_refl _, Nat.le_refl _⟩) hP hD hS hA rfl (by decide) rfl [1, 2, 3, 4, 5, 6, 0, 0, 0, 0, 0, 0, 0, 0, 0] (by decide +kernel) rfl (fun H locs hP hD hS => ?_)
  refine lv_iconst (v := (0 : Int32)) hx hb dX4_read_38 (by decide) ?_
  refine lv_istore_n (lv' := [(3, .int (0 : Int32)), (0, .ref aJ), (1, .ref aT.1), (2, .ref aS)]) hx hb dX4_read_39 rfl hl (by decide) rfl (fun ls hl => ?_)
  exact L40 4000 q6.1 q6.2.1 q6.2.2.1 q6.2.2.2.1 q6.2.2.2.2.1 q6.2.2.2.2.2.1 q6.2.2.2.2.2.2.1 q6.2.2.2.2.2.2.2.1 q6.2.2.2.2.2.2.2.2 (0 : Int32) _ _ _ h hP hD hS (lv_sub hl [1, 2, 0] rfl)
