-- walks: lay (printed by wip/whole/gen)
set_option maxHeartbeats 8000000 in
set_option maxRecDepth 100000 in
theorem kX3_withRule (l : Launch) (D : va_G) (cI cC cS : ClassId) (i1 : Int32) (sz : Nat) {q : Int32} (h : pX3_withRule i1 = some q) : kMi l yX3_withRule wsX3_withRule ({ frames := 0, cells := 0, slots := 0, locals := 0 } : Room) D (kTy cI cC cS) [.int i1] ([] : va_W) sz q ([] : va_W) := by
  refine Met.ofW (cc := cX3_withRule) (maxL := 1) (ret := (some .int)) (by decide) rfl ?_
  intro p e s m args below meth c s₁ B hml hv
  obtain ⟨rfl, hsz, hP, hK, hD0, hN⟩ := hv
  have hx := B.exec
  have hb := B.bytes
  have hr := B.returns
  have hts := atoms_spec (ws := wsX3_withRule) B.pre
  have hown : s.vm.findClass RX3 = some m.cls := findClass_of_methodNamed B.named
  have hlocks := B.notSynchronized
  subst hsz
  have hD := hD0.self (sz := s.heap.size)
  generalize hAe : va_A ([] : va_W) s.heap.size = A at hD ⊢
  have hA : ∀ q : Nat, s.heap.size ≤ q → A q := fun q h => by rw [← hAe]; exact Or.inr h
  have hS : va_S A s.heap s.heap [] := va_S.rf
  have hl := lv_entry ([.int i1]) (n := 1) (Nat.le_of_ble_eq_true rfl)
  rw [lg_entry_eq]
  generalize (lg_sl ([.int i1]) ++ List.replicate (1 - (lg_sl ([.int i1])).length) Slot.unset).toArray = ls at hl ⊢
  have hl : lv_has ls 1 [(0, .int i1)] := hl
  unfold pX3_withRule at h
  refine lv_iload_n hx hb dX3_withRule_0 rfl (lv_at hl 0 rfl) ?_
  refine lv_if_ne (tgt := 8) hx hb dX3_withRule_1 (by decide) (fun g => ?_) (fun g => ?_)
  · rw [if_neg g] at h
    refine lv_iload_n hx hb dX3_withRule_8 rfl (lv_at hl 0 rfl) ?_
    refine lv_iconst (v := (1 : Int32)) hx hb dX3_withRule_9 (by decide) ?_
    refine lv_iadd hx hb dX3_withRule_10 ?_
    obtain rfl := Option.some.inj h
    exact W.iret (v := (i1 + (1 : Int32))) hx hb hr (fun t ht hW => ⟨⟨_, (), rfl, rfl, by rw [ht]; exact hP, hD⟩, hS.F ht⟩) hS.2.2 dX3_withRule_11
  · rw [if_pos g] at h
    refine lv_iconst (v := (0 : Int32)) hx hb dX3_withRule_4 (by decide) ?_
    refine lv_goto (tgt := 11) hx hb dX3_withRule_5 (by decide) ?_
    obtain rfl := Option.some.inj h
    exact W.iret (v := (0 : Int32)) hx hb hr (fun t ht hW => ⟨⟨_, (), rfl, rfl, by rw [ht]; exact hP, hD⟩, hS.F ht⟩) hS.2.2 dX3_withRule_11
set_option maxHeartbeats 8000000 in
set_option maxRecDepth 100000 in
theorem kX3_widthOf (l : Launch) (D : va_G) (cI cC cS : ClassId) (aY : Nat × Nat × Nat × Nat × Nat) (vY0 : Int32) (vY1 : Int32) (vY2 : Int32) (vY3 : Int32) (vY4 : (Nat → Int32)) (vY5 : (Nat → Int32)) (vY6 : (Nat → Int32)) (vY7 : (Nat → Int32)) (vY8 : Int32) (vY9 : Int32) (vY10 : Int32) (i1 : Int32) (sz : Nat) {q : Int32} (h : pX3_widthOf vY0 vY1 i1 = some q) : kMi l yX3_widthOf wsX3_widthOf ({ frames := 0, cells := 0, slots := 0, locals := 0 } : Room) D (kTy cI cC cS) [.ref aY.1, .int i1] (wLY cI aY vY0 vY1 vY2 vY3 vY4 vY5 vY6 vY7 vY8 vY9 vY10) sz q (wLY cI aY vY0 vY1 vY2 vY3 vY4 vY5 vY6 vY7 vY8 vY9 vY10) := by
  refine Met.ofW (cc := cX3_widthOf) (maxL := 2) (ret := (some .int)) (by decide) rfl ?_
  intro p e s m args below meth c s₁ B hml hv
  obtain ⟨rfl, hsz, hP, hK, hD0, hN⟩ := hv
  have hx := B.exec
  have hb := B.bytes
  have hr := B.returns
  have hts := atoms_spec (ws := wsX3_widthOf) B.pre
  have hown : s.vm.findClass RX3 = some m.cls := findClass_of_methodNamed B.named
  have hlocks := B.notSynchronized
  subst hsz
  have hD := hD0.self (sz := s.heap.size)
  generalize hAe : va_A (wLY cI aY vY0 vY1 vY2 vY3 vY4 vY5 vY6 vY7 vY8 vY9 vY10) s.heap.size = A at hD ⊢
  have hA : ∀ q : Nat, s.heap.size ≤ q → A q := fun q h => by rw [← hAe]; exact Or.inr h
  have hS : va_S A s.heap s.heap [] := va_S.rf
  have huX3 : ∀ w ∈ u_ws RX3 TX3 11, w ∈ wsX3_widthOf := by decide +kernel
  have hl := lv_entry ([.ref aY.1, .int i1]) (n := 2) (Nat.le_of_ble_eq_true rfl)
  rw [lg_entry_eq]
  generalize (lg_sl ([.ref aY.1, .int i1]) ++ List.replicate (2 - (lg_sl ([.ref aY.1, .int i1])).length) Slot.unset).toArray = ls at hl ⊢
  have hl : lv_has ls 2 [(0, .ref aY.1), (1, .int i1)] := hl
  unfold pX3_widthOf at h
  refine lv_iload_n hx hb dX3_widthOf_0 rfl (lv_at hl 1 rfl) ?_
  refine lv_if_ne (tgt := 11) hx hb dX3_widthOf_1 (by decide) (fun g => ?_) (fun g => ?_)
  · rw [if_neg g] at h
    refine lv_aload_n hx hb dX3_widthOf_11 rfl (lv_at hl 0 rfl) ?_
    refine va_get (D := D) (ci := 3) (v := .int vY1) (C := RX3) (T := TX3) (N := 11) hx hb hts huX3 hown hK hP 0 rfl rfl 1 (by decide) (hts (.fieldLink RX3 15 "VerseColumns$Layout" "rightWidth" "I") (by decide +kernel)) (fun _ h9 => h9) rfl dX3_widthOf_12 ?_
    obtain rfl := Option.some.inj h
    exact W.iret (v := vY1) hx hb hr (fun t ht hW => ⟨⟨_, (), rfl, rfl, by rw [ht]; exact hP, hD⟩, hS.F ht⟩) hS.2.2 dX3_widthOf_15
  · rw [if_pos g] at h
    refine lv_aload_n hx hb dX3_widthOf_4 rfl (lv_at hl 0 rfl) ?_
    refine va_get (D := D) (ci := 3) (v := .int vY0) (C := RX3) (T := TX3) (N := 11) hx hb hts huX3 hown hK hP 0 rfl rfl 0 (by decide) (hts (.fieldLink RX3 9 "VerseColumns$Layout" "leftWidth" "I") (by decide +kernel)) (fun _ h9 => h9) rfl dX3_widthOf_5 ?_
    refine lv_goto (tgt := 15) hx hb dX3_widthOf_8 (by decide) ?_
    obtain rfl := Option.some.inj h
    exact W.iret (v := vY0) hx hb hr (fun t ht hW => ⟨⟨_, (), rfl, rfl, by rw [ht]; exact hP, hD⟩, hS.F ht⟩) hS.2.2 dX3_widthOf_15
set_option maxHeartbeats 8000000 in
set_option maxRecDepth 100000 in
theorem kX3_changeWidth (l : Launch) (D : va_G) (cI cC cS : ClassId) (aY : Nat × Nat × Nat × Nat × Nat) (vY0 : Int32) (vY1 : Int32) (vY2 : Int32) (vY3 : Int32) (vY4 : (Nat → Int32)) (vY5 : (Nat → Int32)) (vY6 : (Nat → Int32)) (vY7 : (Nat → Int32)) (vY8 : Int32) (vY9 : Int32) (vY10 : Int32) (i1 : Int32) (i2 : Int32) (sz : Nat) {q : Int32 × Int32} (h : pX3_changeWidth vY0 vY1 i1 i2 = some q) : kMv l yX3_changeWidth wsX3_changeWidth ({ frames := 0, cells := 0, slots := 0, locals := 0 } : Room) D (kTy cI cC cS) [.ref aY.1, .int i1, .int i2] (wLY cI aY vY0 vY1 vY2 vY3 vY4 vY5 vY6 vY7 vY8 vY9 vY10) sz (wLY cI aY q.1 q.2 vY2 vY3 vY4 vY5 vY6 vY7 vY8 vY9 vY10) := by
  refine Met.ofW (cc := cX3_changeWidth) (maxL := 3) (ret := none) (by decide) rfl ?_
  intro p e s m args below meth c s₁ B hml hv
  obtain ⟨rfl, hsz, hP, hK, hD0, hN⟩ := hv
  have hx := B.exec
  have hb := B.bytes
  have hr := B.returns
  have hts := atoms_spec (ws := wsX3_changeWidth) B.pre
  have hown : s.vm.findClass RX3 = some m.cls := findClass_of_methodNamed B.named
  have hlocks := B.notSynchronized
  subst hsz
  have hD := hD0.self (sz := s.heap.size)
  generalize hAe : va_A (wLY cI aY vY0 vY1 vY2 vY3 vY4 vY5 vY6 vY7 vY8 vY9 vY10) s.heap.size = A at hD ⊢
  have hA : ∀ q : Nat, s.heap.size ≤ q → A q := fun q h => by rw [← hAe]; exact Or.inr h
  have hS : va_S A s.heap s.heap [] := va_S.rf
  have huX3 : ∀ w ∈ u_ws RX3 TX3 11, w ∈ wsX3_changeWidth := by decide +kernel
  have hl := lv_entry ([.ref aY.1, .int i1, .int i2]) (n := 3) (Nat.le_of_ble_eq_true rfl)
  rw [lg_entry_eq]
  generalize (lg_sl ([.ref aY.1, .int i1, .int i2]) ++ List.replicate (3 - (lg_sl ([.ref aY.1, .int i1, .int i2])).length) Slot.unset).toArray = ls at hl ⊢
  have hl : lv_has ls 3 [(0, .ref aY.1), (1, .int i1), (2, .int i2)] := hl
  unfold pX3_changeWidth at h
  refine lv_iload_n hx hb dX3_changeWidth_0 rfl (lv_at hl 1 rfl) ?_
  refine lv_if_ne (tgt := 12) hx hb dX3_changeWidth_1 (by decide) (fun g => ?_) (fun g => ?_)
  · rw [if_neg g] at h
    refine lv_aload_n hx hb dX3_changeWidth_12 rfl (lv_at hl 0 rfl) ?_
    refine lv_iload_n hx hb dX3_changeWidth_13 rfl (lv_at hl 2 rfl) ?_
    refine va_put (D := D) (ci := 3) (v := .int i2) (ty := .int) (C := RX3) (T := TX3) (N := 11) hx hb hts huX3 tyX3 tyX3_ok nmX3 hown hK hP hD hS 0 rfl rfl 1 (by decide) (hts (.fieldLink RX3 15 "VerseColumns$Layout" "rightWidth" "I") (by decide +kernel)) (fun _ h9 => h9) rfl (by decide +kernel) rfl rfl (Nat.le_of_ble_eq_true rfl) dX3_changeWidth_14 (fun H locs hP hD hS => ?_)
    have hP : va_P D vwCl (wLY cI aY vY0 i2 vY2 vY3 vY4 vY5 vY6 vY7 vY8 vY9 vY10) H := hP
    have hD : va_D A (wLY cI aY vY0 i2 vY2 vY3 vY4 vY5 vY6 vY7 vY8 vY9 vY10) := hD
    obtain rfl := Option.some.inj h
    exact W.vret hx hb hr (fun t ht hW => ⟨⟨(), rfl, trivial, by rw [ht]; exact hP, hD⟩, hS.F ht⟩) hS.2.2 dX3_changeWidth_17
  · rw [if_pos g] at h
    refine lv_aload_n hx hb dX3_changeWidth_4 rfl (lv_at hl 0 rfl) ?_
    refine lv_iload_n hx hb dX3_changeWidth_5 rfl (lv_at hl 2 rfl) ?_
    refine va_put (D := D) (ci := 3) (v := .int i2) (ty := .int) (C := RX3) (T := TX3) (N := 11) hx hb hts huX3 tyX3 tyX3_ok nmX3 hown hK hP hD hS 0 rfl rfl 0 (by decide) (hts (.fieldLink RX3 9 "VerseColumns$Layout" "leftWidth" "I") (by decide +kernel)) (fun _ h9 => h9) rfl (by decide +kernel) rfl rfl (Nat.le_of_ble_eq_true rfl) dX3_changeWidth_6 (fun H locs hP hD hS => ?_)
    have hP : va_P D vwCl (wLY cI aY i2 vY1 vY2 vY3 vY4 vY5 vY6 vY7 vY8 vY9 vY10) H := hP
    have hD : va_D A (wLY cI aY i2 vY1 vY2 vY3 vY4 vY5 vY6 vY7 vY8 vY9 vY10) := hD
    refine lv_goto (tgt := 17) hx hb dX3_changeWidth_9 (by decide) ?_
    obtain rfl := Option.some.inj h
    exact W.vret hx hb hr (fun t ht hW => ⟨⟨(), rfl, trivial, by rw [ht]; exact hP, hD⟩, hS.F ht⟩) hS.2.2 dX3_changeWidth_17
set_option maxHeartbeats 8000000 in
set_option maxRecDepth 100000 in
theorem kX3_fillPages (l : Launch) (D : va_G) (cI cC cS : ClassId) (aY : Nat × Nat × Nat × Nat × Nat) (vY0 : Int32) (vY1 : Int32) (vY2 : Int32) (vY3 : Int32) (vY4 : (Nat → Int32)) (vY5 : (Nat → Int32)) (vY6 : (Nat → Int32)) (vY7 : (Nat → Int32)) (vY8 : Int32) (vY9 : Int32) (vY10 : Int32) (sz : Nat) {q : (Nat → Int32) × (Nat → Int32) × Int32} (h : pX3_fillPages vY2 vY4 vY5 vY6 vY7 vY8 vY9 = some q) : kMv l yX3_fillPages wsX3_fillPages ({ frames := 1, cells := 0, slots := 0, locals := 20 } : Room) D (kTy cI cC cS) [.ref aY.1] (wLY cI aY vY0 vY1 vY2 vY3 vY4 vY5 vY6 vY7 vY8 vY9 vY10) sz (wLY cI aY vY0 vY1 vY2 vY3 vY4 vY5 q.1 q.2.1 vY8 q.2.2 vY10) := by
  refine Met.ofW (cc := cX3_fillPages) (maxL := 4) (ret := none) (by decide) rfl ?_
  intro p e s m args below meth c s₁ B hml hv
  obtain ⟨rfl, hsz, hP, hK, hD0, hN⟩ := hv
  have hx := B.exec
  have hb := B.bytes
  have hr := B.returns
  have hts := atoms_spec (ws := wsX3_fillPages) B.pre
  have hown : s.vm.findClass RX3 = some m.cls := findClass_of_methodNamed B.named
  have hlocks := B.notSynchronized
  subst hsz
  have hD := hD0.self (sz := s.heap.size)
  generalize hAe : va_A (wLY cI aY vY0 vY1 vY2 vY3 vY4 vY5 vY6 vY7 vY8 vY9 vY10) s.heap.size = A at hD ⊢
  have hA : ∀ q : Nat, s.heap.size ≤ q → A q := fun q h => by rw [← hAe]; exact Or.inr h
  have hS : va_S A s.heap s.heap [] := va_S.rf
  have huX3 : ∀ w ∈ u_ws RX3 TX3 11, w ∈ wsX3_fillPages := by decide +kernel
  have hl := lv_entry ([.ref aY.1]) (n := 4) (Nat.le_of_ble_eq_true rfl)
  rw [lg_entry_eq]
  generalize (lg_sl ([.ref aY.1]) ++ List.replicate (4 - (lg_sl ([.ref aY.1])).length) Slot.unset).toArray = ls at hl ⊢
  have hl : lv_has ls 4 [(0, .ref aY.1)] := hl
  have L22 : ∀ (nL22 : Nat) (c0_6 : (Nat → Int32)) (c0_7 : (Nat → Int32)) (c0_9 : Int32) (y1 : Int32) (y2 : Int32) (y3 : Int32) (H : Heap) (locs : List Loc) (ls : Array Slot), pX3_fillPages_L22 vY2 vY4 vY5 vY8 nL22 c0_6 c0_7 c0_9 y1 y2 y3 = some q → va_P D vwCl (wLY cI aY vY0 vY1 vY2 vY3 vY4 vY5 c0_6 c0_7 vY8 c0_9 vY10) H → va_D A (wLY cI aY vY0 vY1 vY2 vY3 vY4 vY5 c0_6 c0_7 vY8 c0_9 vY10) → va_S A s.heap H locs → lv_has ls 4 [(0, .ref aY.1), (1, .int y1), (2, .int y2), (3, .int y3)] → W p l e ({ frames := 1, cells := 0, slots := 0, locals := 20 } : Room) s m ([.ref aY.1] : List Value).toArray below meth c H locs 0 0 (MQ below (va_Qv (fun (_ : Unit) => True) (fun _ => kPost D (wLY cI aY vY0 vY1 vY2 vY3 vY4 vY5 q.1 q.2.1 vY8 q.2.2 vY10) A) A) ([.ref aY.1] : List Value).toArray s 0 0 A) (F0 m 22 ls []) := by
    clear h hP hD hS hl
    intro nL22
    induction nL22 with
    | zero => intro c0_6 c0_7 c0_9 y1 y2 y3 H locs ls h; have h : (none : Option ((Nat → Int32) × (Nat → Int32) × Int32)) = some q := h; cases h
    | succ nL22 ihL22 =>
      have j75 : ∀ (c0_6 : (Nat → Int32)) (c0_7 : (Nat → Int32)) (c0_9 : Int32) (y1 : Int32) (y2 : Int32) (y3 : Int32) (H : Heap) (locs : List Loc) (ls : Array Slot), pX3_fillPages_j75 vY2 vY4 vY5 vY8 (pX3_fillPages_L22 vY2 vY4 vY5 vY8 nL22) c0_6 c0_7 c0_9 y1 y2 y3 = some q → va_P D vwCl (wLY cI aY vY0 vY1 vY2 vY3 vY4 vY5 c0_6 c0_7 vY8 c0_9 vY10) H → va_D A (wLY cI aY vY0 vY1 vY2 vY3 vY4 vY5 c0_6 c0_7 vY8 c0_9 vY10) → va_S A s.heap H locs → lv_has ls 4 [(0, .ref aY.1), (1, .int y1), (2, .int y2), (3, .int y3)] → W p l e ({ frames := 1, cells := 0, slots := 0, locals := 20 } : Room) s m ([.ref aY.1] : List Value).toArray below meth c H locs 0 0 (MQ below (va_Qv (fun (_ : Unit) => True) (fun _ => kPost D (wLY cI aY vY0 vY1 vY2 vY3 vY4 vY5 q.1 q.2.1 vY8 q.2.2 vY10) A) A) ([.ref aY.1] : List Value).toArray s 0 0 A) (F0 m 75 ls []) := by
        skip
        intro c0_6 c0_7 c0_9 y1 y2 y3 H locs ls h hP hD hS hl
        unfold pX3_fillPages_j75 at h
        refine lv_aload_n hx hb dX3_fillPages_75 rfl (lv_at hl 0 rfl) ?_
        refine va_get (D := D) (ci := 3) (v := .ref aY.2.2.2.1) (C := RX3) (T := TX3) (N := 11) hx hb hts huX3 hown hK hP 0 rfl rfl 6 (by decide) (hts (.fieldLink RX3 31 "VerseColumns$Layout" "pageNumbers" "[I") (by decide +kernel)) (fun _ h9 => h9) rfl dX3_fillPages_76 ?_
        refine lv_iload_n hx hb dX3_fillPages_79 rfl (lv_at hl 3 rfl) ?_
        refine lv_aload_n hx hb dX3_fillPages_80 rfl (lv_at hl 0 rfl) ?_
        refine va_get (D := D) (ci := 3) (v := .int c0_9) (C := RX3) (T := TX3) (N := 11) hx hb hts huX3 hown hK hP 0 rfl rfl 9 (by decide) (hts (.fieldLink RX3 91 "VerseColumns$Layout" "pages" "I") (by decide +kernel)) (fun _ h9 => h9) rfl dX3_fillPages_81 ?_
        refine lv_iconst (v := (1 : Int32)) hx hb dX3_fillPages_84 (by decide) ?_
        refine lv_isub hx hb dX3_fillPages_85 ?_
        obtain ⟨g, h⟩ := kif h
        refine va_iast hx hb hK hP hD hS 3 0 rfl rfl (kin g) dX3_fillPages_86 (fun H locs hP hD hS => ?_)
        have hP : va_P D vwCl (wLY cI aY vY0 vY1 vY2 vY3 vY4 vY5 (upd c0_6 y3.toNatClampNeg (c0_9 - (1 : Int32))) c0_7 vY8 c0_9 vY10) H := hP
        have hD : va_D A (wLY cI aY vY0 vY1 vY2 vY3 vY4 vY5 (upd c0_6 y3.toNatClampNeg (c0_9 - (1 : Int32))) c0_7 vY8 c0_9 vY10) := hD
        refine lv_aload_n hx hb dX3_fillPages_87 rfl (lv_at hl 0 rfl) ?_
        refine va_get (D := D) (ci := 3) (v := .ref aY.2.2.2.2) (C := RX3) (T := TX3) (N := 11) hx hb hts huX3 hown hK hP 0 rfl rfl 7 (by decide) (hts (.fieldLink RX3 34 "VerseColumns$Layout" "lines" "[I") (by decide +kernel)) (fun _ h9 => h9) rfl dX3_fillPages_88 ?_
        refine lv_iload_n hx hb dX3_fillPages_91 rfl (lv_at hl 3 rfl) ?_
        refine lv_iload_n hx hb dX3_fillPages_92 rfl (lv_at hl 1 rfl) ?_
        obtain ⟨g, h⟩ := kif h
        refine va_iast hx hb hK hP hD hS 4 0 rfl rfl (kin g) dX3_fillPages_93 (fun H locs hP hD hS => ?_)
        have hP : va_P D vwCl (wLY cI aY vY0 vY1 vY2 vY3 vY4 vY5 (upd c0_6 y3.toNatClampNeg (c0_9 - (1 : Int32))) (upd c0_7 y3.toNatClampNeg y1) vY8 c0_9 vY10) H := hP
        have hD : va_D A (wLY cI aY vY0 vY1 vY2 vY3 vY4 vY5 (upd c0_6 y3.toNatClampNeg (c0_9 - (1 : Int32))) (upd c0_7 y3.toNatClampNeg y1) vY8 c0_9 vY10) := hD
        refine lv_iload_n hx hb dX3_fillPages_94 rfl (lv_at hl 1 rfl) ?_
        refine lv_aload_n hx hb dX3_fillPages_95 rfl (lv_at hl 0 rfl) ?_
        refine va_get (D := D) (ci := 3) (v := .ref aY.2.1) (C := RX3) (T := TX3) (N := 11) hx hb hts huX3 hown hK hP 0 rfl rfl 4 (by decide) (hts (.fieldLink RX3 24 "VerseColumns$Layout" "heights" "[I") (by decide +kernel)) (fun _ h9 => h9) rfl dX3_fillPages_96 ?_
        refine lv_iload_n hx hb dX3_fillPages_99 rfl (lv_at hl 3 rfl) ?_
        obtain ⟨g, h⟩ := kif h
        refine va_iald hx hb hK hP 1 0 rfl rfl (kin g) dX3_fillPages_100 ?_
        refine lv_iadd hx hb dX3_fillPages_101 ?_
        refine lv_istore_n (lv' := [(1, .int (y1 + (vY4 y3.toNatClampNeg))), (0, .ref aY.1), (2, .int y2), (3, .int y3)]) hx hb dX3_fillPages_102 rfl hl (by decide) rfl (fun ls hl => ?_)
        refine lv_iload_n hx hb dX3_fillPages_103 rfl (lv_at hl 2 rfl) ?_
        refine lv_aload_n hx hb dX3_fillPages_104 rfl (lv_at hl 1 rfl) ?_
        refine va_get (D := D) (ci := 3) (v := .ref aY.2.2.1) (C := RX3) (T := TX3) (N := 11) hx hb hts huX3 hown hK hP 0 rfl rfl 5 (by decide) (hts (.fieldLink RX3 28 "VerseColumns$Layout" "notes" "[I") (by decide +kernel)) (fun _ h9 => h9) rfl dX3_fillPages_105 ?_
        refine lv_iload_n hx hb dX3_fillPages_108 rfl (lv_at hl 3 rfl) ?_
        obtain ⟨g, h⟩ := kif h
        refine va_iald hx hb hK hP 2 0 rfl rfl (kin g) dX3_fillPages_109 ?_
        refine lv_iadd hx hb dX3_fillPages_110 ?_
        refine lv_istore_n (lv' := [(2, .int (y2 + (vY5 y3.toNatClampNeg))), (1, .int (y1 + (vY4 y3.toNatClampNeg))), (0, .ref aY.1), (3, .int y3)]) hx hb dX3_fillPages_111 rfl hl (by decide) rfl (fun ls hl => ?_)
        refine lv_iinc (v := (y3 + (1 : Int32))) (lv' := [(3, .int (y3 + (1 : Int32))), (2, .int (y2 + (vY5 y3.toNatClampNeg))), (1, .int (y1 + (vY4 y3.toNatClampNeg))), (0, .ref aY.1)]) hx hb dX3_fillPages_112 hl (k := 3) rfl rfl (by decide) rfl (fun ls hl => ?_)
        refine lv_goto (tgt := 22) hx hb dX3_fillPages_115 (by decide) ?_
        exact ihL22 (upd c0_6 y3.toNatClampNeg (c0_9 - (1 : Int32))) (upd c0_7 y3.toNatClampNeg y1) c0_9 (y1 + (vY4 y3.toNatClampNeg)) (y2 + (vY5 y3.toNatClampNeg)) (y3 + (1 : Int32)) _ _ _ h hP hD hS (lv_sub hl [3, 2, 1, 0] rfl)
      intro c0_6 c0_7 c0_9 y1 y2 y3 H locs ls h hP hD hS hl
      have h : pX3_fillPages_bL22 vY2 vY4 vY5 vY8 (pX3_fillPages_L22 vY2 vY4 vY5 vY8 nL22) c0_6 c0_7 c0_9 y1 y2 y3 = some q := h
      unfold pX3_fillPages_bL22 at h
      refine lv_iload_n hx hb dX3_fillPages_22 rfl (lv_at hl 3 rfl) ?_
      refine lv_aload_n hx hb dX3_fillPages_23 rfl (lv_at hl 0 rfl) ?_
      refine va_get (D := D) (ci := 3) (v := .int vY8) (C := RX3) (T := TX3) (N := 11) hx hb hts huX3 hown hK hP 0 rfl rfl 8 (by decide) (hts (.fieldLink RX3 54 "VerseColumns$Layout" "groups" "I") (by decide +kernel)) (fun _ h9 => h9) rfl dX3_fillPages_24 ?_
      refine lv_icmp_ge (tgt := 118) hx hb dX3_fillPages_27 (by decide) (fun g => ?_) (fun g => ?_)
      · rw [if_pos g] at h
        obtain rfl := Option.some.inj h
        exact W.vret hx hb hr (fun t ht hW => ⟨⟨(), rfl, trivial, by rw [ht]; exact hP, hD⟩, hS.F ht⟩) hS.2.2 dX3_fillPages_118
      · rw [if_neg g] at h
        refine lv_iload_n hx hb dX3_fillPages_30 rfl (lv_at hl 3 rfl) ?_
        refine lv_if_le (tgt := 75) hx hb dX3_fillPages_31 (by decide) (fun g => ?_) (fun g => ?_)
        · rw [if_pos g] at h
          exact j75 c0_6 c0_7 c0_9 y1 y2 y3 _ _ _ h hP hD hS (lv_sub hl [0, 1, 2, 3] rfl)
        · rw [if_neg g] at h
          refine lv_iload_n hx hb dX3_fillPages_34 rfl (lv_at hl 1 rfl) ?_
          refine lv_aload_n hx hb dX3_fillPages_35 rfl (lv_at hl 0 rfl) ?_
          refine va_get (D := D) (ci := 3) (v := .ref aY.2.1) (C := RX3) (T := TX3) (N := 11) hx hb hts huX3 hown hK hP 0 rfl rfl 4 (by decide) (hts (.fieldLink RX3 24 "VerseColumns$Layout" "heights" "[I") (by decide +kernel)) (fun _ h9 => h9) rfl dX3_fillPages_36 ?_
          refine lv_iload_n hx hb dX3_fillPages_39 rfl (lv_at hl 3 rfl) ?_
          obtain ⟨g, h⟩ := kif h
          refine va_iald hx hb hK hP 1 0 rfl rfl (kin g) dX3_fillPages_40 ?_
          refine lv_iadd hx hb dX3_fillPages_41 ?_
          refine lv_iload_n hx hb dX3_fillPages_42 rfl (lv_at hl 2 rfl) ?_
          refine lv_aload_n hx hb dX3_fillPages_43 rfl (lv_at hl 0 rfl) ?_
          refine va_get (D := D) (ci := 3) (v := .ref aY.2.2.1) (C := RX3) (T := TX3) (N := 11) hx hb hts huX3 hown hK hP 0 rfl rfl 5 (by decide) (hts (.fieldLink RX3 28 "VerseColumns$Layout" "notes" "[I") (by decide +kernel)) (fun _ h9 => h9) rfl dX3_fillPages_44 ?_
          refine lv_iload_n hx hb dX3_fillPages_47 rfl (lv_at hl 3 rfl) ?_
          obtain ⟨g, h⟩ := kif h
          refine va_iald hx hb hK hP 2 0 rfl rfl (kin g) dX3_fillPages_48 ?_
          refine lv_iadd hx hb dX3_fillPages_49 ?_
          obtain ⟨q2, h1, h⟩ := Option.bind_eq_some_iff.mp h
          refine kcir [] (va_runS (As := [.int (y2 + (vY5 y3.toNatClampNeg))]) (rest := [.int (y1 + (vY4 y3.toNatClampNeg))]) ⟨hx, hb, hml, hown, hts⟩ (kX3_withRule l D cI cC cS (y2 + (vY5 y3.toNatClampNeg)) H.size h1) (cwS 1 hts gX3_fillPages_X3_withRule rfl rfl rfl (by decide +kernel) ⟨Nat.le_of_ble_eq_true rfl, Nat.le_of_ble_eq_true rfl⟩) (kpre hK hN hP hD [] rfl (by decide)) rfl rfl hl.1 rfl (lv_room (Nat.le_of_ble_eq_true rfl)) dX3_fillPages_50 ⟨Nat.le_refl _, Nat.le_refl _⟩) hP hD hS hA rfl (fun H locs hP hS => ?_)
          refine lv_iadd hx hb dX3_fillPages_53 ?_
          refine lv_aload_n hx hb dX3_fillPages_54 rfl (lv_at hl 0 rfl) ?_
          refine va_get (D := D) (ci := 3) (v := .int vY2) (C := RX3) (T := TX3) (N := 11) hx hb hts huX3 hown hK hP 0 rfl rfl 2 (by decide) (hts (.fieldLink RX3 18 "VerseColumns$Layout" "pageHeight" "I") (by decide +kernel)) (fun _ h9 => h9) rfl dX3_fillPages_55 ?_
          refine lv_icmp_le (tgt := 75) hx hb dX3_fillPages_58 (by decide) (fun g => ?_) (fun g => ?_)
          · rw [if_pos g] at h
            exact j75 c0_6 c0_7 c0_9 y1 y2 y3 _ _ _ h hP hD hS (lv_sub hl [0, 1, 2, 3] rfl)
          · rw [if_neg g] at h
            refine lv_aload_n hx hb dX3_fillPages_61 rfl (lv_at hl 0 rfl) ?_
            refine lv_dup hx hb dX3_fillPages_62 rfl ?_
            refine va_get (D := D) (ci := 3) (v := .int c0_9) (C := RX3) (T := TX3) (N := 11) hx hb hts huX3 hown hK hP 0 rfl rfl 9 (by decide) (hts (.fieldLink RX3 91 "VerseColumns$Layout" "pages" "I") (by decide +kernel)) (fun _ h9 => h9) rfl dX3_fillPages_63 ?_
            refine lv_iconst (v := (1 : Int32)) hx hb dX3_fillPages_66 (by decide) ?_
            refine lv_iadd hx hb dX3_fillPages_67 ?_
            refine va_put (D := D) (ci := 3) (v := .int (c0_9 + (1 : Int32))) (ty := .int) (C := RX3) (T := TX3) (N := 11) hx hb hts huX3 tyX3 tyX3_ok nmX3 hown hK hP hD hS 0 rfl rfl 9 (by decide) (hts (.fieldLink RX3 91 "VerseColumns$Layout" "pages" "I") (by decide +kernel)) (fun _ h9 => h9) rfl (by decide +kernel) rfl rfl (Nat.le_of_ble_eq_true rfl) dX3_fillPages_68 (fun H locs hP hD hS => ?_)
            have hP : va_P D vwCl (wLY cI aY vY0 vY1 vY2 vY3 vY4 vY5 c0_6 c0_7 vY8 (c0_9 + (1 : Int32)) vY10) H := hP
            have hD : va_D A (wLY cI aY vY0 vY1 vY2 vY3 vY4 vY5 c0_6 c0_7 vY8 (c0_9 + (1 : Int32)) vY10) := hD
            refine lv_iconst (v := (0 : Int32)) hx hb dX3_fillPages_71 (by decide) ?_
            refine lv_istore_n (lv' := [(1, .int (0 : Int32)), (0, .ref aY.1), (2, .int y2), (3, .int y3)]) hx hb dX3_fillPages_72 rfl hl (by decide) rfl (fun ls hl => ?_)
            refine lv_iconst (v := (0 : Int32)) hx hb dX3_fillPages_73 (by decide) ?_
            refine lv_istore_n (lv' := [(2, .int (0 : Int32)), (1, .int (0 : Int32)), (0, .ref aY.1), (3, .int y3)]) hx hb dX3_fillPages_74 rfl hl (by decide) rfl (fun ls hl => ?_)
            exact j75 c0_6 c0_7 (c0_9 + (1 : Int32)) (0 : Int32) (0 : Int32) y3 _ _ _ h hP hD hS (lv_sub hl [2, 1, 0, 3] rfl)
  have j13 : ∀ (c0_6 : (Nat → Int32)) (c0_7 : (Nat → Int32)) (c0_9 : Int32) (t1 : Int32) (H : Heap) (locs : List Loc) (ls : Array Slot), pX3_fillPages_j13 vY2 vY4 vY5 vY8 c0_6 c0_7 c0_9 t1 = some q → va_P D vwCl (wLY cI aY vY0 vY1 vY2 vY3 vY4 vY5 c0_6 c0_7 vY8 c0_9 vY10) H → va_D A (wLY cI aY vY0 vY1 vY2 vY3 vY4 vY5 c0_6 c0_7 vY8 c0_9 vY10) → va_S A s.heap H locs → lv_has ls 4 [(0, .ref aY.1)] → W p l e ({ frames := 1, cells := 0, slots := 0, locals := 20 } : Room) s m ([.ref aY.1] : List Value).toArray below meth c H locs 0 0 (MQ below (va_Qv (fun (_ : Unit) => True) (fun _ => kPost D (wLY cI aY vY0 vY1 vY2 vY3 vY4 vY5 q.1 q.2.1 vY8 q.2.2 vY10) A) A) ([.ref aY.1] : List Value).toArray s 0 0 A) (F0 m 13 ls [.int t1, .ref aY.1]) := by
    clear h hP hD hS hl
    intro c0_6 c0_7 c0_9 t1 H locs ls h hP hD hS hl
    unfold pX3_fillPages_j13 at h
    refine va_put (D := D) (ci := 3) (v := .int t1) (ty := .int) (C := RX3) (T := TX3) (N := 11) hx hb hts huX3 tyX3 tyX3_ok nmX3 hown hK hP hD hS 0 rfl rfl 9 (by decide) (hts (.fieldLink RX3 91 "VerseColumns$Layout" "pages" "I") (by decide +kernel)) (fun _ h9 => h9) rfl (by decide +kernel) rfl rfl (Nat.le_of_ble_eq_true rfl) dX3_fillPages_13 (fun H locs hP hD hS => ?_)
    have hP : va_P D vwCl (wLY cI aY vY0 vY1 vY2 vY3 vY4 vY5 c0_6 c0_7 vY8 t1 vY10) H := hP
    have hD : va_D A (wLY cI aY vY0 vY1 vY2 vY3 vY4 vY5 c0_6 c0_7 vY8 t1 vY10) := hD
    refine lv_iconst (v := (0 : Int32)) hx hb dX3_fillPages_16 (by decide) ?_
    refine lv_istore_n (lv' := [(1, .int (0 : Int32)), (0, .ref aY.1)]) hx hb dX3_fillPages_17 rfl hl (by decide) rfl (fun ls hl => ?_)
    refine lv_iconst (v := (0 : Int32)) hx hb dX3_fillPages_18 (by decide) ?_
    refine lv_istore_n (lv' := [(2, .int (0 : Int32)), (1, .int (0 : Int32)), (0, .ref aY.1)]) hx hb dX3_fillPages_19 rfl hl (by decide) rfl (fun ls hl => ?_)
    refine lv_iconst (v := (0 : Int32)) hx hb dX3_fillPages_20 (by decide) ?_
    refine lv_istore_n (lv' := [(3, .int (0 : Int32)), (2, .int (0 : Int32)), (1, .int (0 : Int32)), (0, .ref aY.1)]) hx hb dX3_fillPages_21 rfl hl (by decide) rfl (fun ls hl => ?_)
    exact L22 4000 c0_6 c0_7 t1 (0 : Int32) (0 : Int32) (0 : Int32) _ _ _ h hP hD hS (lv_sub hl [3, 2, 1, 0] rfl)
  unfold pX3_fillPages at h
  refine lv_aload_n hx hb dX3_fillPages_0 rfl (lv_at hl 0 rfl) ?_
  refine lv_aload_n hx hb dX3_fillPages_1 rfl (lv_at hl 0 rfl) ?_
  refine va_get (D := D) (ci := 3) (v := .int vY8) (C := RX3) (T := TX3) (N := 11) hx hb hts huX3 hown hK hP 0 rfl rfl 8 (by decide) (hts (.fieldLink RX3 54 "VerseColumns$Layout" "groups" "I") (by decide +kernel)) (fun _ h9 => h9) rfl dX3_fillPages_2 ?_
  refine lv_if_ne (tgt := 12) hx hb dX3_fillPages_5 (by decide) (fun g => ?_) (fun g => ?_)
  · rw [if_neg g] at h
    refine lv_iconst (v := (1 : Int32)) hx hb dX3_fillPages_12 (by decide) ?_
    exact j13 vY6 vY7 vY9 (1 : Int32) _ _ _ h hP hD hS (lv_sub hl [0] rfl)
  · rw [if_pos g] at h
    refine lv_iconst (v := (0 : Int32)) hx hb dX3_fillPages_8 (by decide) ?_
    refine lv_goto (tgt := 13) hx hb dX3_fillPages_9 (by decide) ?_
    exact j13 vY6 vY7 vY9 (0 : Int32) _ _ _ h hP hD hS (lv_sub hl [0] rfl)
set_option maxHeartbeats 8000000 in
set_option maxRecDepth 100000 in
theorem kX3_heightOf (l : Launch) (D : va_G) (cI cC cS : ClassId) (aY : Nat × Nat × Nat × Nat × Nat) (vY0 : Int32) (vY1 : Int32) (vY2 : Int32) (vY3 : Int32) (vY4 : (Nat → Int32)) (vY5 : (Nat → Int32)) (vY6 : (Nat → Int32)) (vY7 : (Nat → Int32)) (vY8 : Int32) (vY9 : Int32) (vY10 : Int32) (i1 : Int32) (sz : Nat) {q : Int32} (h : pX3_heightOf vY4 i1 = some q) : kMi l yX3_heightOf wsX3_heightOf ({ frames := 1, cells := 0, slots := 0, locals := 21 } : Room) D (kTy cI cC cS) [.ref aY.1, .int i1] (wLY cI aY vY0 vY1 vY2 vY3 vY4 vY5 vY6 vY7 vY8 vY9 vY10) sz q (wLY cI aY vY0 vY1 vY2 vY3 vY4 vY5 vY6 vY7 vY8 vY9 vY10) := by
  refine Met.ofW (cc := cX3_heightOf) (maxL := 2) (ret := (some .int)) (by decide) rfl ?_
  intro p e s m args below meth c s₁ B hml hv
  obtain ⟨rfl, hsz, hP, hK, hD0, hN⟩ := hv
  have hx := B.exec
  have hb := B.bytes
  have hr := B.returns
  have hts := atoms_spec (ws := wsX3_heightOf) B.pre
  have hown : s.vm.findClass RX3 = some m.cls := findClass_of_methodNamed B.named
  have hlocks := B.notSynchronized
  subst hsz
  have hD := hD0.self (sz := s.heap.size)
  generalize hAe : va_A (wLY cI aY vY0 vY1 vY2 vY3 vY4 vY5 vY6 vY7 vY8 vY9 vY10) s.heap.size = A at hD ⊢
  have hA : ∀ q : Nat, s.heap.size ≤ q → A q := fun q h => by rw [← hAe]; exact Or.inr h
  have hS : va_S A s.heap s.heap [] := va_S.rf
  have huX3 : ∀ w ∈ u_ws RX3 TX3 11, w ∈ wsX3_heightOf := by decide +kernel
  have hl := lv_entry ([.ref aY.1, .int i1]) (n := 2) (Nat.le_of_ble_eq_true rfl)
  rw [lg_entry_eq]
  generalize (lg_sl ([.ref aY.1, .int i1]) ++ List.replicate (2 - (lg_sl ([.ref aY.1, .int i1])).length) Slot.unset).toArray = ls at hl ⊢
  have hl : lv_has ls 2 [(0, .ref aY.1), (1, .int i1)] := hl
  unfold pX3_heightOf at h
  refine lv_aload_n hx hb dX3_heightOf_0 rfl (lv_at hl 0 rfl) ?_
  refine va_get (D := D) (ci := 3) (v := .ref aY.2.1) (C := RX3) (T := TX3) (N := 11) hx hb hts huX3 hown hK hP 0 rfl rfl 4 (by decide) (hts (.fieldLink RX3 24 "VerseColumns$Layout" "heights" "[I") (by decide +kernel)) (fun _ h9 => h9) rfl dX3_heightOf_1 ?_
  refine lv_iload_n hx hb dX3_heightOf_4 rfl (lv_at hl 1 rfl) ?_
  obtain ⟨q2, h1, h⟩ := Option.bind_eq_some_iff.mp h
  refine kcir [1] (va_runSN (As := [.ref aY.2.1, .int i1]) (rest := []) ⟨hx, hb, hml, hown, hts⟩ (kX9_cellOf l D cI cC cS aY.2.1 120 vY4 i1 s.heap.size h1) ⟨va_cnB 2 hts gX3_heightOf_X9_cellOf_n97 rfl rfl rfl (hN.m 18 rfl) (hts (.initialized RX9) (by decide +kernel)) (by decide +kernel) ⟨Nat.le_of_ble_eq_true rfl, Nat.le_of_ble_eq_true rfl⟩, hts (.static yX9_cellOf) (by decide +kernel), trivial⟩ (kpre hK hN hP hD [1] rfl (by decide)) rfl rfl hl.1 rfl (lv_room (Nat.le_of_ble_eq_true rfl)) dX3_heightOf_5 ⟨Nat.le_refl _, Nat.le_refl _⟩) hP hD hS hA rfl (fun H locs hP hS => ?_)
  obtain rfl := Option.some.inj h
  exact W.iret (v := q2) hx hb hr (fun t ht hW => ⟨⟨_, (), rfl, rfl, by rw [ht]; exact hP, hD⟩, hS.F ht⟩) hS.2.2 dX3_heightOf_8
set_option maxHeartbeats 8000000 in
set_option maxRecDepth 100000 in
theorem kX3_pageOf (l : Launch) (D : va_G) (cI cC cS : ClassId) (aY : Nat × Nat × Nat × Nat × Nat) (vY0 : Int32) (vY1 : Int32) (vY2 : Int32) (vY3 : Int32) (vY4 : (Nat → Int32)) (vY5 : (Nat → Int32)) (vY6 : (Nat → Int32)) (vY7 : (Nat → Int32)) (vY8 : Int32) (vY9 : Int32) (vY10 : Int32) (i1 : Int32) (sz : Nat) {q : Int32} (h : pX3_pageOf vY6 i1 = some q) : kMi l yX3_pageOf wsX3_pageOf ({ frames := 1, cells := 0, slots := 0, locals := 21 } : Room) D (kTy cI cC cS) [.ref aY.1, .int i1] (wLY cI aY vY0 vY1 vY2 vY3 vY4 vY5 vY6 vY7 vY8 vY9 vY10) sz q (wLY cI aY vY0 vY1 vY2 vY3 vY4 vY5 vY6 vY7 vY8 vY9 vY10) := by
  refine Met.ofW (cc := cX3_pageOf) (maxL := 2) (ret := (some .int)) (by decide) rfl ?_
  intro p e s m args below meth c s₁ B hml hv
  obtain ⟨rfl, hsz, hP, hK, hD0, hN⟩ := hv
  have hx := B.exec
  have hb := B.bytes
  have hr := B.returns
  have hts := atoms_spec (ws := wsX3_pageOf) B.pre
  have hown : s.vm.findClass RX3 = some m.cls := findClass_of_methodNamed B.named
  have hlocks := B.notSynchronized
  subst hsz
  have hD := hD0.self (sz := s.heap.size)
  generalize hAe : va_A (wLY cI aY vY0 vY1 vY2 vY3 vY4 vY5 vY6 vY7 vY8 vY9 vY10) s.heap.size = A at hD ⊢
  have hA : ∀ q : Nat, s.heap.size ≤ q → A q := fun q h => by rw [← hAe]; exact Or.inr h
  have hS : va_S A s.heap s.heap [] := va_S.rf
  have huX3 : ∀ w ∈ u_ws RX3 TX3 11, w ∈ wsX3_pageOf := by decide +kernel
  have hl := lv_entry ([.ref aY.1, .int i1]) (n := 2) (Nat.le_of_ble_eq_true rfl)
  rw [lg_entry_eq]
  generalize (lg_sl ([.ref aY.1, .int i1]) ++ List.replicate (2 - (lg_sl ([.ref aY.1, .int i1])).length) Slot.unset).toArray = ls at hl ⊢
  have hl : lv_has ls 2 [(0, .ref aY.1), (1, .int i1)] := hl
  unfold pX3_pageOf at h
  refine lv_aload_n hx hb dX3_pageOf_0 rfl (lv_at hl 0 rfl) ?_
  refine va_get (D := D) (ci := 3) (v := .ref aY.2.2.2.1) (C := RX3) (T := TX3) (N := 11) hx hb hts huX3 hown hK hP 0 rfl rfl 6 (by decide) (hts (.fieldLink RX3 31 "VerseColumns$Layout" "pageNumbers" "[I") (by decide +kernel)) (fun _ h9 => h9) rfl dX3_pageOf_1 ?_
  refine lv_iload_n hx hb dX3_pageOf_4 rfl (lv_at hl 1 rfl) ?_
  obtain ⟨q2, h1, h⟩ := Option.bind_eq_some_iff.mp h
  refine kcir [3] (va_runSN (As := [.ref aY.2.2.2.1, .int i1]) (rest := []) ⟨hx, hb, hml, hown, hts⟩ (kX9_cellOf l D cI cC cS aY.2.2.2.1 120 vY6 i1 s.heap.size h1) ⟨va_cnB 2 hts gX3_pageOf_X9_cellOf_n97 rfl rfl rfl (hN.m 18 rfl) (hts (.initialized RX9) (by decide +kernel)) (by decide +kernel) ⟨Nat.le_of_ble_eq_true rfl, Nat.le_of_ble_eq_true rfl⟩, hts (.static yX9_cellOf) (by decide +kernel), trivial⟩ (kpre hK hN hP hD [3] rfl (by decide)) rfl rfl hl.1 rfl (lv_room (Nat.le_of_ble_eq_true rfl)) dX3_pageOf_5 ⟨Nat.le_refl _, Nat.le_refl _⟩) hP hD hS hA rfl (fun H locs hP hS => ?_)
  obtain rfl := Option.some.inj h
  exact W.iret (v := q2) hx hb hr (fun t ht hW => ⟨⟨_, (), rfl, rfl, by rw [ht]; exact hP, hD⟩, hS.F ht⟩) hS.2.2 dX3_pageOf_8
set_option maxHeartbeats 8000000 in
set_option maxRecDepth 100000 in
theorem kX3_lineOf (l : Launch) (D : va_G) (cI cC cS : ClassId) (aY : Nat × Nat × Nat × Nat × Nat) (vY0 : Int32) (vY1 : Int32) (vY2 : Int32) (vY3 : Int32) (vY4 : (Nat → Int32)) (vY5 : (Nat → Int32)) (vY6 : (Nat → Int32)) (vY7 : (Nat → Int32)) (vY8 : Int32) (vY9 : Int32) (vY10 : Int32) (i1 : Int32) (sz : Nat) {q : Int32} (h : pX3_lineOf vY7 i1 = some q) : kMi l yX3_lineOf wsX3_lineOf ({ frames := 1, cells := 0, slots := 0, locals := 21 } : Room) D (kTy cI cC cS) [.ref aY.1, .int i1] (wLY cI aY vY0 vY1 vY2 vY3 vY4 vY5 vY6 vY7 vY8 vY9 vY10) sz q (wLY cI aY vY0 vY1 vY2 vY3 vY4 vY5 vY6 vY7 vY8 vY9 vY10) := by
  refine Met.ofW (cc := cX3_lineOf) (maxL := 2) (ret := (some .int)) (by decide) rfl ?_
  intro p e s m args below meth c s₁ B hml hv
  obtain ⟨rfl, hsz, hP, hK, hD0, hN⟩ := hv
  have hx := B.exec
  have hb := B.bytes
  have hr := B.returns
  have hts := atoms_spec (ws := wsX3_lineOf) B.pre
  have hown : s.vm.findClass RX3 = some m.cls := findClass_of_methodNamed B.named
  have hlocks := B.notSynchronized
  subst hsz
  have hD := hD0.self (sz := s.heap.size)
  generalize hAe : va_A (wLY cI aY vY0 vY1 vY2 vY3 vY4 vY5 vY6 vY7 vY8 vY9 vY10) s.heap.size = A at hD ⊢
  have hA : ∀ q : Nat, s.heap.size ≤ q → A q := fun q h => by rw [← hAe]; exact Or.inr h
  have hS : va_S A s.heap s.heap [] := va_S.rf
  have huX3 : ∀ w ∈ u_ws RX3 TX3 11, w ∈ wsX3_lineOf := by decide +kernel
  have hl := lv_entry ([.ref aY.1, .int i1]) (n := 2) (Nat.le_of_ble_eq_true rfl)
  rw [lg_entry_eq]
  generalize (lg_sl ([.ref aY.1, .int i1]) ++ List.replicate (2 - (lg_sl ([.ref aY.1, .int i1])).length) Slot.unset).toArray = ls at hl ⊢
  have hl : lv_has ls 2 [(0, .ref aY.1), (1, .int i1)] := hl
  unfold pX3_lineOf at h
  refine lv_aload_n hx hb dX3_lineOf_0 rfl (lv_at hl 0 rfl) ?_
  refine va_get (D := D) (ci := 3) (v := .ref aY.2.2.2.2) (C := RX3) (T := TX3) (N := 11) hx hb hts huX3 hown hK hP 0 rfl rfl 7 (by decide) (hts (.fieldLink RX3 34 "VerseColumns$Layout" "lines" "[I") (by decide +kernel)) (fun _ h9 => h9) rfl dX3_lineOf_1 ?_
  refine lv_iload_n hx hb dX3_lineOf_4 rfl (lv_at hl 1 rfl) ?_
  obtain ⟨q2, h1, h⟩ := Option.bind_eq_some_iff.mp h
  refine kcir [4] (va_runSN (As := [.ref aY.2.2.2.2, .int i1]) (rest := []) ⟨hx, hb, hml, hown, hts⟩ (kX9_cellOf l D cI cC cS aY.2.2.2.2 120 vY7 i1 s.heap.size h1) ⟨va_cnB 2 hts gX3_lineOf_X9_cellOf_n97 rfl rfl rfl (hN.m 18 rfl) (hts (.initialized RX9) (by decide +kernel)) (by decide +kernel) ⟨Nat.le_of_ble_eq_true rfl, Nat.le_of_ble_eq_true rfl⟩, hts (.static yX9_cellOf) (by decide +kernel), trivial⟩ (kpre hK hN hP hD [4] rfl (by decide)) rfl rfl hl.1 rfl (lv_room (Nat.le_of_ble_eq_true rfl)) dX3_lineOf_5 ⟨Nat.le_refl _, Nat.le_refl _⟩) hP hD hS hA rfl (fun H locs hP hS => ?_)
  obtain rfl := Option.some.inj h
  exact W.iret (v := q2) hx hb hr (fun t ht hW => ⟨⟨_, (), rfl, rfl, by rw [ht]; exact hP, hD⟩, hS.F ht⟩) hS.2.2 dX3_lineOf_8
set_option maxHeartbeats 8000000 in
set_option maxRecDepth 100000 in
theorem kX3_notesOf (l : Launch) (D : va_G) (cI cC cS : ClassId) (aY : Nat × Nat × Nat × Nat × Nat) (vY0 : Int32) (vY1 : Int32) (vY2 : Int32) (vY3 : Int32) (vY4 : (Nat → Int32)) (vY5 : (Nat → Int32)) (vY6 : (Nat → Int32)) (vY7 : (Nat → Int32)) (vY8 : Int32) (vY9 : Int32) (vY10 : Int32) (i1 : Int32) (sz : Nat) {q : Int32} (h : pX3_notesOf vY5 i1 = some q) : kMi l yX3_notesOf wsX3_notesOf ({ frames := 1, cells := 0, slots := 0, locals := 21 } : Room) D (kTy cI cC cS) [.ref aY.1, .int i1] (wLY cI aY vY0 vY1 vY2 vY3 vY4 vY5 vY6 vY7 vY8 vY9 vY10) sz q (wLY cI aY vY0 vY1 vY2 vY3 vY4 vY5 vY6 vY7 vY8 vY9 vY10) := by
  refine Met.ofW (cc := cX3_notesOf) (maxL := 2) (ret := (some .int)) (by decide) rfl ?_
  intro p e s m args below meth c s₁ B hml hv
  obtain ⟨rfl, hsz, hP, hK, hD0, hN⟩ := hv
  have hx := B.exec
  have hb := B.bytes
  have hr := B.returns
  have hts := atoms_spec (ws := wsX3_notesOf) B.pre
  have hown : s.vm.findClass RX3 = some m.cls := findClass_of_methodNamed B.named
  have hlocks := B.notSynchronized
  subst hsz
  have hD := hD0.self (sz := s.heap.size)
  generalize hAe : va_A (wLY cI aY vY0 vY1 vY2 vY3 vY4 vY5 vY6 vY7 vY8 vY9 vY10) s.heap.size = A at hD ⊢
  have hA : ∀ q : Nat, s.heap.size ≤ q → A q := fun q h => by rw [← hAe]; exact Or.inr h
  have hS : va_S A s.heap s.heap [] := va_S.rf
  have huX3 : ∀ w ∈ u_ws RX3 TX3 11, w ∈ wsX3_notesOf := by decide +kernel
  have hl := lv_entry ([.ref aY.1, .int i1]) (n := 2) (Nat.le_of_ble_eq_true rfl)
  rw [lg_entry_eq]
  generalize (lg_sl ([.ref aY.1, .int i1]) ++ List.replicate (2 - (lg_sl ([.ref aY.1, .int i1])).length) Slot.unset).toArray = ls at hl ⊢
  have hl : lv_has ls 2 [(0, .ref aY.1), (1, .int i1)] := hl
  unfold pX3_notesOf at h
  refine lv_aload_n hx hb dX3_notesOf_0 rfl (lv_at hl 0 rfl) ?_
  refine va_get (D := D) (ci := 3) (v := .ref aY.2.2.1) (C := RX3) (T := TX3) (N := 11) hx hb hts huX3 hown hK hP 0 rfl rfl 5 (by decide) (hts (.fieldLink RX3 28 "VerseColumns$Layout" "notes" "[I") (by decide +kernel)) (fun _ h9 => h9) rfl dX3_notesOf_1 ?_
  refine lv_iload_n hx hb dX3_notesOf_4 rfl (lv_at hl 1 rfl) ?_
  obtain ⟨q2, h1, h⟩ := Option.bind_eq_some_iff.mp h
  refine kcir [2] (va_runSN (As := [.ref aY.2.2.1, .int i1]) (rest := []) ⟨hx, hb, hml, hown, hts⟩ (kX9_cellOf l D cI cC cS aY.2.2.1 120 vY5 i1 s.heap.size h1) ⟨va_cnB 2 hts gX3_notesOf_X9_cellOf_n97 rfl rfl rfl (hN.m 18 rfl) (hts (.initialized RX9) (by decide +kernel)) (by decide +kernel) ⟨Nat.le_of_ble_eq_true rfl, Nat.le_of_ble_eq_true rfl⟩, hts (.static yX9_cellOf) (by decide +kernel), trivial⟩ (kpre hK hN hP hD [2] rfl (by decide)) rfl rfl hl.1 rfl (lv_room (Nat.le_of_ble_eq_true rfl)) dX3_notesOf_5 ⟨Nat.le_refl _, Nat.le_refl _⟩) hP hD hS hA rfl (fun H locs hP hS => ?_)
  obtain rfl := Option.some.inj h
  exact W.iret (v := q2) hx hb hr (fun t ht hW => ⟨⟨_, (), rfl, rfl, by rw [ht]; exact hP, hD⟩, hS.F ht⟩) hS.2.2 dX3_notesOf_8
set_option maxHeartbeats 8000000 in
set_option maxRecDepth 100000 in
theorem kX3_firstGroupOf (l : Launch) (D : va_G) (cI cC cS : ClassId) (aY : Nat × Nat × Nat × Nat × Nat) (vY0 : Int32) (vY1 : Int32) (vY2 : Int32) (vY3 : Int32) (vY4 : (Nat → Int32)) (vY5 : (Nat → Int32)) (vY6 : (Nat → Int32)) (vY7 : (Nat → Int32)) (vY8 : Int32) (vY9 : Int32) (vY10 : Int32) (i1 : Int32) (sz : Nat) {q : Int32} (h : pX3_firstGroupOf vY6 vY8 i1 = some q) : kMi l yX3_firstGroupOf wsX3_firstGroupOf ({ frames := 2, cells := 0, slots := 0, locals := 42 } : Room) D (kTy cI cC cS) [.ref aY.1, .int i1] (wLY cI aY vY0 vY1 vY2 vY3 vY4 vY5 vY6 vY7 vY8 vY9 vY10) sz q (wLY cI aY vY0 vY1 vY2 vY3 vY4 vY5 vY6 vY7 vY8 vY9 vY10) := by
  refine Met.ofW (cc := cX3_firstGroupOf) (maxL := 3) (ret := (some .int)) (by decide) rfl ?_
  intro p e s m args below meth c s₁ B hml hv
  obtain ⟨rfl, hsz, hP, hK, hD0, hN⟩ := hv
  have hx := B.exec
  have hb := B.bytes
  have hr := B.returns
  have hts := atoms_spec (ws := wsX3_firstGroupOf) B.pre
  have hown : s.vm.findClass RX3 = some m.cls := findClass_of_methodNamed B.named
  have hlocks := B.notSynchronized
  subst hsz
  have hD := hD0.self (sz := s.heap.size)
  generalize hAe : va_A (wLY cI aY vY0 vY1 vY2 vY3 vY4 vY5 vY6 vY7 vY8 vY9 vY10) s.heap.size = A at hD ⊢
  have hA : ∀ q : Nat, s.heap.size ≤ q → A q := fun q h => by rw [← hAe]; exact Or.inr h
  have hS : va_S A s.heap s.heap [] := va_S.rf
  have huX3 : ∀ w ∈ u_ws RX3 TX3 11, w ∈ wsX3_firstGroupOf := by decide +kernel
  have hl := lv_entry ([.ref aY.1, .int i1]) (n := 3) (Nat.le_of_ble_eq_true rfl)
  rw [lg_entry_eq]
  generalize (lg_sl ([.ref aY.1, .int i1]) ++ List.replicate (3 - (lg_sl ([.ref aY.1, .int i1])).length) Slot.unset).toArray = ls at hl ⊢
  have hl : lv_has ls 3 [(0, .ref aY.1), (1, .int i1)] := hl
  have L2 : ∀ (nL2 : Nat) (y1 : Int32) (y2 : Int32) (H : Heap) (locs : List Loc) (ls : Array Slot), pX3_firstGroupOf_L2 vY6 vY8 nL2 y1 y2 = some q → va_P D vwCl (wLY cI aY vY0 vY1 vY2 vY3 vY4 vY5 vY6 vY7 vY8 vY9 vY10) H → va_S A s.heap H locs → lv_has ls 3 [(0, .ref aY.1), (1, .int y1), (2, .int y2)] → W p l e ({ frames := 2, cells := 0, slots := 0, locals := 42 } : Room) s m ([.ref aY.1, .int i1] : List Value).toArray below meth c H locs 0 0 (MQ below (va_Qi (fun (r : Int32) (_ : Unit) => r = q) (fun _ => kPost D (wLY cI aY vY0 vY1 vY2 vY3 vY4 vY5 vY6 vY7 vY8 vY9 vY10) A) A) ([.ref aY.1, .int i1] : List Value).toArray s 0 0 A) (F0 m 2 ls []) := by
    clear h hP hS hl
    intro nL2
    induction nL2 with
    | zero => intro y1 y2 H locs ls h; have h : (none : Option (Int32)) = some q := h; cases h
    | succ nL2 ihL2 =>
      intro y1 y2 H locs ls h hP hS hl
      have h : pX3_firstGroupOf_bL2 vY6 vY8 (pX3_firstGroupOf_L2 vY6 vY8 nL2) y1 y2 = some q := h
      unfold pX3_firstGroupOf_bL2 at h
      refine lv_iload_n hx hb dX3_firstGroupOf_2 rfl (lv_at hl 2 rfl) ?_
      refine lv_aload_n hx hb dX3_firstGroupOf_3 rfl (lv_at hl 0 rfl) ?_
      refine va_get (D := D) (ci := 3) (v := .int vY8) (C := RX3) (T := TX3) (N := 11) hx hb hts huX3 hown hK hP 0 rfl rfl 8 (by decide) (hts (.fieldLink RX3 54 "VerseColumns$Layout" "groups" "I") (by decide +kernel)) (fun _ h9 => h9) rfl dX3_firstGroupOf_4 ?_
      refine lv_icmp_ge (tgt := 27) hx hb dX3_firstGroupOf_7 (by decide) (fun g => ?_) (fun g => ?_)
      · rw [if_pos g] at h
        refine lv_iconst (v := (-1 : Int32)) hx hb dX3_firstGroupOf_27 (by decide) ?_
        obtain rfl := Option.some.inj h
        exact W.iret (v := (-1 : Int32)) hx hb hr (fun t ht hW => ⟨⟨_, (), rfl, rfl, by rw [ht]; exact hP, hD⟩, hS.F ht⟩) hS.2.2 dX3_firstGroupOf_28
      · rw [if_neg g] at h
        refine lv_aload_n hx hb dX3_firstGroupOf_10 rfl (lv_at hl 0 rfl) ?_
        refine lv_iload_n hx hb dX3_firstGroupOf_11 rfl (lv_at hl 2 rfl) ?_
        obtain ⟨q2, h1, h⟩ := Option.bind_eq_some_iff.mp h
        refine kcir [0, 1, 2, 3, 4] (va_runV (As := [.int y2]) (rest := []) ⟨hx, hb, hml, hown, hts⟩ (kX3_pageOf l D cI cC cS aY vY0 vY1 vY2 vY3 vY4 vY5 vY6 vY7 vY8 vY9 vY10 y2 H.size h1) (cwV 1 hts gX3_firstGroupOf_X3_pageOf rfl rfl rfl (by decide +kernel) ⟨Nat.le_of_ble_eq_true rfl, Nat.le_of_ble_eq_true rfl⟩) (kpreV hK hN hP hD [0, 1, 2, 3, 4] rfl (by decide) 3 rfl rfl) rfl rfl hl.1 rfl (lv_room (Nat.le_of_ble_eq_true rfl)) dX3_firstGroupOf_12 ⟨Nat.le_refl _, Nat.le_refl _⟩) hP hD hS hA rfl (fun H locs hP hS => ?_)
        refine lv_iload_n hx hb dX3_firstGroupOf_15 rfl (lv_at hl 1 rfl) ?_
        refine lv_icmp_ne (tgt := 21) hx hb dX3_firstGroupOf_16 (by decide) (fun g => ?_) (fun g => ?_)
        · rw [if_neg g] at h
          refine lv_iinc (v := (y2 + (1 : Int32))) (lv' := [(2, .int (y2 + (1 : Int32))), (0, .ref aY.1), (1, .int y1)]) hx hb dX3_firstGroupOf_21 hl (k := 2) rfl rfl (by decide) rfl (fun ls hl => ?_)
          refine lv_goto (tgt := 2) hx hb dX3_firstGroupOf_24 (by decide) ?_
          exact ihL2 y1 (y2 + (1 : Int32)) _ _ _ h hP hS (lv_sub hl [1, 2, 0] rfl)
        · rw [if_pos g] at h
          refine lv_iload_n hx hb dX3_firstGroupOf_19 rfl (lv_at hl 2 rfl) ?_
          obtain rfl := Option.some.inj h
          exact W.iret (v := y2) hx hb hr (fun t ht hW => ⟨⟨_, (), rfl, rfl, by rw [ht]; exact hP, hD⟩, hS.F ht⟩) hS.2.2 dX3_firstGroupOf_20
  unfold pX3_firstGroupOf at h
  refine lv_iconst (v := (0 : Int32)) hx hb dX3_firstGroupOf_0 (by decide) ?_
  refine lv_istore_n (lv' := [(2, .int (0 : Int32)), (0, .ref aY.1), (1, .int i1)]) hx hb dX3_firstGroupOf_1 rfl hl (by decide) rfl (fun ls hl => ?_)
  exact L2 4000 i1 (0 : Int32) _ _ _ h hP hS (lv_sub hl [1, 2, 0] rfl)
set_option maxHeartbeats 8000000 in
set_option maxRecDepth 100000 in
theorem kX3_lastGroupOf (l : Launch) (D : va_G) (cI cC cS : ClassId) (aY : Nat × Nat × Nat × Nat × Nat) (vY0 : Int32) (vY1 : Int32) (vY2 : Int32) (vY3 : Int32) (vY4 : (Nat → Int32)) (vY5 : (Nat → Int32)) (vY6 : (Nat → Int32)) (vY7 : (Nat → Int32)) (vY8 : Int32) (vY9 : Int32) (vY10 : Int32) (i1 : Int32) (sz : Nat) {q : Int32} (h : pX3_lastGroupOf vY6 vY8 i1 = some q) : kMi l yX3_lastGroupOf wsX3_lastGroupOf ({ frames := 2, cells := 0, slots := 0, locals := 42 } : Room) D (kTy cI cC cS) [.ref aY.1, .int i1] (wLY cI aY vY0 vY1 vY2 vY3 vY4 vY5 vY6 vY7 vY8 vY9 vY10) sz q (wLY cI aY vY0 vY1 vY2 vY3 vY4 vY5 vY6 vY7 vY8 vY9 vY10) := by
  refine Met.ofW (cc := cX3_lastGroupOf) (maxL := 3) (ret := (some .int)) (by decide) rfl ?_
  intro p e s m args below meth c s₁ B hml hv
  obtain ⟨rfl, hsz, hP, hK, hD0, hN⟩ := hv
  have hx := B.exec
  have hb := B.bytes
  have hr := B.returns
  have hts := atoms_spec (ws := wsX3_lastGroupOf) B.pre
  have hown : s.vm.findClass RX3 = some m.cls := findClass_of_methodNamed B.named
  have hlocks := B.notSynchronized
  subst hsz
  have hD := hD0.self (sz := s.heap.size)
  generalize hAe : va_A (wLY cI aY vY0 vY1 vY2 vY3 vY4 vY5 vY6 vY7 vY8 vY9 vY10) s.heap.size = A at hD ⊢
  have hA : ∀ q : Nat, s.heap.size ≤ q → A q := fun q h => by rw [← hAe]; exact Or.inr h
  have hS : va_S A s.heap s.heap [] := va_S.rf
  have huX3 : ∀ w ∈ u_ws RX3 TX3 11, w ∈ wsX3_lastGroupOf := by decide +kernel
  have hl := lv_entry ([.ref aY.1, .int i1]) (n := 3) (Nat.le_of_ble_eq_true rfl)
  rw [lg_entry_eq]
  generalize (lg_sl ([.ref aY.1, .int i1]) ++ List.replicate (3 - (lg_sl ([.ref aY.1, .int i1])).length) Slot.unset).toArray = ls at hl ⊢
  have hl : lv_has ls 3 [(0, .ref aY.1), (1, .int i1)] := hl
  have L7 : ∀ (nL7 : Nat) (y1 : Int32) (y2 : Int32) (H : Heap) (locs : List Loc) (ls : Array Slot), pX3_lastGroupOf_L7 vY6 vY8 nL7 y1 y2 = some q → va_P D vwCl (wLY cI aY vY0 vY1 vY2 vY3 vY4 vY5 vY6 vY7 vY8 vY9 vY10) H → va_S A s.heap H locs → lv_has ls 3 [(0, .ref aY.1), (1, .int y1), (2, .int y2)] → W p l e ({ frames := 2, cells := 0, slots := 0, locals := 42 } : Room) s m ([.ref aY.1, .int i1] : List Value).toArray below meth c H locs 0 0 (MQ below (va_Qi (fun (r : Int32) (_ : Unit) => r = q) (fun _ => kPost D (wLY cI aY vY0 vY1 vY2 vY3 vY4 vY5 vY6 vY7 vY8 vY9 vY10) A) A) ([.ref aY.1, .int i1] : List Value).toArray s 0 0 A) (F0 m 7 ls []) := by
    clear h hP hS hl
    intro nL7
    induction nL7 with
    | zero => intro y1 y2 H locs ls h; have h : (none : Option (Int32)) = some q := h; cases h
    | succ nL7 ihL7 =>
      intro y1 y2 H locs ls h hP hS hl
      have h : pX3_lastGroupOf_bL7 vY6 vY8 (pX3_lastGroupOf_L7 vY6 vY8 nL7) y1 y2 = some q := h
      unfold pX3_lastGroupOf_bL7 at h
      refine lv_iload_n hx hb dX3_lastGroupOf_7 rfl (lv_at hl 2 rfl) ?_
      refine lv_if_lt (tgt := 28) hx hb dX3_lastGroupOf_8 (by decide) (fun g => ?_) (fun g => ?_)
      · rw [if_pos g] at h
        refine lv_iconst (v := (-1 : Int32)) hx hb dX3_lastGroupOf_28 (by decide) ?_
        obtain rfl := Option.some.inj h
        exact W.iret (v := (-1 : Int32)) hx hb hr (fun t ht hW => ⟨⟨_, (), rfl, rfl, by rw [ht]; exact hP, hD⟩, hS.F ht⟩) hS.2.2 dX3_lastGroupOf_29
      · rw [if_neg g] at h
        refine lv_aload_n hx hb dX3_lastGroupOf_11 rfl (lv_at hl 0 rfl) ?_
        refine lv_iload_n hx hb dX3_lastGroupOf_12 rfl (lv_at hl 2 rfl) ?_
        obtain ⟨q2, h1, h⟩ := Option.bind_eq_some_iff.mp h
        refine kcir [0, 1, 2, 3, 4] (va_runV (As := [.int y2]) (rest := []) ⟨hx, hb, hml, hown, hts⟩ (kX3_pageOf l D cI cC cS aY vY0 vY1 vY2 vY3 vY4 vY5 vY6 vY7 vY8 vY9 vY10 y2 H.size h1) (cwV 1 hts gX3_lastGroupOf_X3_pageOf rfl rfl rfl (by decide +kernel) ⟨Nat.le_of_ble_eq_true rfl, Nat.le_of_ble_eq_true rfl⟩) (kpreV hK hN hP hD [0, 1, 2, 3, 4] rfl (by decide) 3 rfl rfl) rfl rfl hl.1 rfl (lv_room (Nat.le_of_ble_eq_true rfl)) dX3_lastGroupOf_13 ⟨Nat.le_refl _, Nat.le_refl _⟩) hP hD hS hA rfl (fun H locs hP hS => ?_)
        refine lv_iload_n hx hb dX3_lastGroupOf_16 rfl (lv_at hl 1 rfl) ?_
        refine lv_icmp_ne (tgt := 22) hx hb dX3_lastGroupOf_17 (by decide) (fun g => ?_) (fun g => ?_)
        · rw [if_neg g] at h
          refine lv_iinc (v := (y2 + (-1 : Int32))) (lv' := [(2, .int (y2 + (-1 : Int32))), (0, .ref aY.1), (1, .int y1)]) hx hb dX3_lastGroupOf_22 hl (k := 2) rfl rfl (by decide) rfl (fun ls hl => ?_)
          refine lv_goto (tgt := 7) hx hb dX3_lastGroupOf_25 (by decide) ?_
          exact ihL7 y1 (y2 + (-1 : Int32)) _ _ _ h hP hS (lv_sub hl [1, 2, 0] rfl)
        · rw [if_pos g] at h
          refine lv_iload_n hx hb dX3_lastGroupOf_20 rfl (lv_at hl 2 rfl) ?_
          obtain rfl := Option.some.inj h
          exact W.iret (v := y2) hx hb hr (fun t ht hW => ⟨⟨_, (), rfl, rfl, by rw [ht]; exact hP, hD⟩, hS.F ht⟩) hS.2.2 dX3_lastGroupOf_21
  unfold pX3_lastGroupOf at h
  refine lv_aload_n hx hb dX3_lastGroupOf_0 rfl (lv_at hl 0 rfl) ?_
  refine va_get (D := D) (ci := 3) (v := .int vY8) (C := RX3) (T := TX3) (N := 11) hx hb hts huX3 hown hK hP 0 rfl rfl 8 (by decide) (hts (.fieldLink RX3 54 "VerseColumns$Layout" "groups" "I") (by decide +kernel)) (fun _ h9 => h9) rfl dX3_lastGroupOf_1 ?_
  refine lv_iconst (v := (1 : Int32)) hx hb dX3_lastGroupOf_4 (by decide) ?_
  refine lv_isub hx hb dX3_lastGroupOf_5 ?_
  refine lv_istore_n (lv' := [(2, .int (vY8 - (1 : Int32))), (0, .ref aY.1), (1, .int i1)]) hx hb dX3_lastGroupOf_6 rfl hl (by decide) rfl (fun ls hl => ?_)
  exact L7 4000 i1 (vY8 - (1 : Int32)) _ _ _ h hP hS (lv_sub hl [1, 2, 0] rfl)
set_option maxHeartbeats 8000000 in
set_option maxRecDepth 100000 in
theorem kX3_heightSumOf (l : Launch) (D : va_G) (cI cC cS : ClassId) (aY : Nat × Nat × Nat × Nat × Nat) (vY0 : Int32) (vY1 : Int32) (vY2 : Int32) (vY3 : Int32) (vY4 : (Nat → Int32)) (vY5 : (Nat → Int32)) (vY6 : (Nat → Int32)) (vY7 : (Nat → Int32)) (vY8 : Int32) (vY9 : Int32) (vY10 : Int32) (i1 : Int32) (sz : Nat) {q : Int32} (h : pX3_heightSumOf vY4 vY6 vY8 i1 = some q) : kMi l yX3_heightSumOf wsX3_heightSumOf ({ frames := 2, cells := 0, slots := 0, locals := 42 } : Room) D (kTy cI cC cS) [.ref aY.1, .int i1] (wLY cI aY vY0 vY1 vY2 vY3 vY4 vY5 vY6 vY7 vY8 vY9 vY10) sz q (wLY cI aY vY0 vY1 vY2 vY3 vY4 vY5 vY6 vY7 vY8 vY9 vY10) := by
  refine Met.ofW (cc := cX3_heightSumOf) (maxL := 4) (ret := (some .int)) (by decide) rfl ?_
  intro p e s m args below meth c s₁ B hml hv
  obtain ⟨rfl, hsz, hP, hK, hD0, hN⟩ := hv
  have hx := B.exec
  have hb := B.bytes
  have hr := B.returns
  have hts := atoms_spec (ws := wsX3_heightSumOf) B.pre
  have hown : s.vm.findClass RX3 = some m.cls := findClass_of_methodNamed B.named
  have hlocks := B.notSynchronized
  subst hsz
  have hD := hD0.self (sz := s.heap.size)
  generalize hAe : va_A (wLY cI aY vY0 vY1 vY2 vY3 vY4 vY5 vY6 vY7 vY8 vY9 vY10) s.heap.size = A at hD ⊢
  have hA : ∀ q : Nat, s.heap.size ≤ q → A q := fun q h => by rw [← hAe]; exact Or.inr h
  have hS : va_S A s.heap s.heap [] := va_S.rf
  have huX3 : ∀ w ∈ u_ws RX3 TX3 11, w ∈ wsX3_heightSumOf := by decide +kernel
  have hl := lv_entry ([.ref aY.1, .int i1]) (n := 4) (Nat.le_of_ble_eq_true rfl)
  rw [lg_entry_eq]
  generalize (lg_sl ([.ref aY.1, .int i1]) ++ List.replicate (4 - (lg_sl ([.ref aY.1, .int i1])).length) Slot.unset).toArray = ls at hl ⊢
  have hl : lv_has ls 4 [(0, .ref aY.1), (1, .int i1)] := hl
  have L4 : ∀ (nL4 : Nat) (y1 : Int32) (y2 : Int32) (y3 : Int32) (H : Heap) (locs : List Loc) (ls : Array Slot), pX3_heightSumOf_L4 vY4 vY6 vY8 nL4 y1 y2 y3 = some q → va_P D vwCl (wLY cI aY vY0 vY1 vY2 vY3 vY4 vY5 vY6 vY7 vY8 vY9 vY10) H → va_S A s.heap H locs → lv_has ls 4 [(0, .ref aY.1), (1, .int y1), (2, .int y2), (3, .int y3)] → W p l e ({ frames := 2, cells := 0, slots := 0, locals := 42 } : Room) s m ([.ref aY.1, .int i1] : List Value).toArray below meth c H locs 0 0 (MQ below (va_Qi (fun (r : Int32) (_ : Unit) => r = q) (fun _ => kPost D (wLY cI aY vY0 vY1 vY2 vY3 vY4 vY5 vY6 vY7 vY8 vY9 vY10) A) A) ([.ref aY.1, .int i1] : List Value).toArray s 0 0 A) (F0 m 4 ls []) := by
    clear h hP hS hl
    intro nL4
    induction nL4 with
    | zero => intro y1 y2 y3 H locs ls h; have h : (none : Option (Int32)) = some q := h; cases h
    | succ nL4 ihL4 =>
      have j31 : ∀ (y1 : Int32) (y3 : Int32) (t0 : Int32) (t1 : Int32) (H : Heap) (locs : List Loc) (ls : Array Slot), pX3_heightSumOf_j31 vY4 vY6 vY8 (pX3_heightSumOf_L4 vY4 vY6 vY8 nL4) y1 y3 t0 t1 = some q → va_P D vwCl (wLY cI aY vY0 vY1 vY2 vY3 vY4 vY5 vY6 vY7 vY8 vY9 vY10) H → va_S A s.heap H locs → lv_has ls 4 [(0, .ref aY.1), (1, .int y1), (3, .int y3)] → W p l e ({ frames := 2, cells := 0, slots := 0, locals := 42 } : Room) s m ([.ref aY.1, .int i1] : List Value).toArray below meth c H locs 0 0 (MQ below (va_Qi (fun (r : Int32) (_ : Unit) => r = q) (fun _ => kPost D (wLY cI aY vY0 vY1 vY2 vY3 vY4 vY5 vY6 vY7 vY8 vY9 vY10) A) A) ([.ref aY.1, .int i1] : List Value).toArray s 0 0 A) (F0 m 31 ls [.int t1, .int t0]) := by
        skip
        intro y1 y3 t0 t1 H locs ls h hP hS hl
        unfold pX3_heightSumOf_j31 at h
        refine lv_iadd hx hb dX3_heightSumOf_31 ?_
        refine lv_istore_n (lv' := [(2, .int (t0 + t1)), (0, .ref aY.1), (1, .int y1), (3, .int y3)]) hx hb dX3_heightSumOf_32 rfl hl (by decide) rfl (fun ls hl => ?_)
        refine lv_iinc (v := (y3 + (1 : Int32))) (lv' := [(3, .int (y3 + (1 : Int32))), (2, .int (t0 + t1)), (0, .ref aY.1), (1, .int y1)]) hx hb dX3_heightSumOf_33 hl (k := 3) rfl rfl (by decide) rfl (fun ls hl => ?_)
        refine lv_goto (tgt := 4) hx hb dX3_heightSumOf_36 (by decide) ?_
        exact ihL4 y1 (t0 + t1) (y3 + (1 : Int32)) _ _ _ h hP hS (lv_sub hl [2, 3, 1, 0] rfl)
      intro y1 y2 y3 H locs ls h hP hS hl
      have h : pX3_heightSumOf_bL4 vY4 vY6 vY8 (pX3_heightSumOf_L4 vY4 vY6 vY8 nL4) y1 y2 y3 = some q := h
      unfold pX3_heightSumOf_bL4 at h
      refine lv_iload_n hx hb dX3_heightSumOf_4 rfl (lv_at hl 3 rfl) ?_
      refine lv_aload_n hx hb dX3_heightSumOf_5 rfl (lv_at hl 0 rfl) ?_
      refine va_get (D := D) (ci := 3) (v := .int vY8) (C := RX3) (T := TX3) (N := 11) hx hb hts huX3 hown hK hP 0 rfl rfl 8 (by decide) (hts (.fieldLink RX3 54 "VerseColumns$Layout" "groups" "I") (by decide +kernel)) (fun _ h9 => h9) rfl dX3_heightSumOf_6 ?_
      refine lv_icmp_ge (tgt := 39) hx hb dX3_heightSumOf_9 (by decide) (fun g => ?_) (fun g => ?_)
      · rw [if_pos g] at h
        refine lv_iload_n hx hb dX3_heightSumOf_39 rfl (lv_at hl 2 rfl) ?_
        obtain rfl := Option.some.inj h
        exact W.iret (v := y2) hx hb hr (fun t ht hW => ⟨⟨_, (), rfl, rfl, by rw [ht]; exact hP, hD⟩, hS.F ht⟩) hS.2.2 dX3_heightSumOf_40
      · rw [if_neg g] at h
        refine lv_iload_n hx hb dX3_heightSumOf_12 rfl (lv_at hl 2 rfl) ?_
        refine lv_aload_n hx hb dX3_heightSumOf_13 rfl (lv_at hl 0 rfl) ?_
        refine lv_iload_n hx hb dX3_heightSumOf_14 rfl (lv_at hl 3 rfl) ?_
        obtain ⟨q2, h1, h⟩ := Option.bind_eq_some_iff.mp h
        refine kcir [0, 1, 2, 3, 4] (va_runV (As := [.int y3]) (rest := [.int y2]) ⟨hx, hb, hml, hown, hts⟩ (kX3_pageOf l D cI cC cS aY vY0 vY1 vY2 vY3 vY4 vY5 vY6 vY7 vY8 vY9 vY10 y3 H.size h1) (cwV 1 hts gX3_heightSumOf_X3_pageOf rfl rfl rfl (by decide +kernel) ⟨Nat.le_of_ble_eq_true rfl, Nat.le_of_ble_eq_true rfl⟩) (kpreV hK hN hP hD [0, 1, 2, 3, 4] rfl (by decide) 3 rfl rfl) rfl rfl hl.1 rfl (lv_room (Nat.le_of_ble_eq_true rfl)) dX3_heightSumOf_15 ⟨Nat.le_refl _, Nat.le_refl _⟩) hP hD hS hA rfl (fun H locs hP hS => ?_)
        refine lv_iload_n hx hb dX3_heightSumOf_18 rfl (lv_at hl 1 rfl) ?_
        refine lv_icmp_ne (tgt := 30) hx hb dX3_heightSumOf_19 (by decide) (fun g => ?_) (fun g => ?_)
        · rw [if_neg g] at h
          refine lv_iconst (v := (0 : Int32)) hx hb dX3_heightSumOf_30 (by decide) ?_
          exact j31 y1 y3 y2 (0 : Int32) _ _ _ h hP hS (lv_sub hl [0, 1, 3] rfl)
        · rw [if_pos g] at h
          refine lv_aload_n hx hb dX3_heightSumOf_22 rfl (lv_at hl 0 rfl) ?_
          refine lv_iload_n hx hb dX3_heightSumOf_23 rfl (lv_at hl 3 rfl) ?_
          obtain ⟨q4, h3, h⟩ := Option.bind_eq_some_iff.mp h
          refine kcir [0, 1, 2, 3, 4] (va_runV (As := [.int y3]) (rest := [.int y2]) ⟨hx, hb, hml, hown, hts⟩ (kX3_heightOf l D cI cC cS aY vY0 vY1 vY2 vY3 vY4 vY5 vY6 vY7 vY8 vY9 vY10 y3 H.size h3) (cwV 1 hts gX3_heightSumOf_X3_heightOf rfl rfl rfl (by decide +kernel) ⟨Nat.le_of_ble_eq_true rfl, Nat.le_of_ble_eq_true rfl⟩) (kpreV hK hN hP hD [0, 1, 2, 3, 4] rfl (by decide) 3 rfl rfl) rfl rfl hl.1 rfl (lv_room (Nat.le_of_ble_eq_true rfl)) dX3_heightSumOf_24 ⟨Nat.le_refl _, Nat.le_refl _⟩) hP hD hS hA rfl (fun H locs hP hS => ?_)
          refine lv_goto (tgt := 31) hx hb dX3_heightSumOf_27 (by decide) ?_
          exact j31 y1 y3 y2 q4 _ _ _ h hP hS (lv_sub hl [0, 1, 3] rfl)
  unfold pX3_heightSumOf at h
  refine lv_iconst (v := (0 : Int32)) hx hb dX3_heightSumOf_0 (by decide) ?_
  refine lv_istore_n (lv' := [(2, .int (0 : Int32)), (0, .ref aY.1), (1, .int i1)]) hx hb dX3_heightSumOf_1 rfl hl (by decide) rfl (fun ls hl => ?_)
  refine lv_iconst (v := (0 : Int32)) hx hb dX3_heightSumOf_2 (by decide) ?_
  refine lv_istore_n (lv' := [(3, .int (0 : Int32)), (2, .int (0 : Int32)), (0, .ref aY.1), (1, .int i1)]) hx hb dX3_heightSumOf_3 rfl hl (by decide) rfl (fun ls hl => ?_)
  exact L4 4000 i1 (0 : Int32) (0 : Int32) _ _ _ h hP hS (lv_sub hl [2, 3, 1, 0] rfl)
set_option maxHeartbeats 8000000 in
set_option maxRecDepth 100000 in
theorem kX3_noteLinesOf (l : Launch) (D : va_G) (cI cC cS : ClassId) (aY : Nat × Nat × Nat × Nat × Nat) (vY0 : Int32) (vY1 : Int32) (vY2 : Int32) (vY3 : Int32) (vY4 : (Nat → Int32)) (vY5 : (Nat → Int32)) (vY6 : (Nat → Int32)) (vY7 : (Nat → Int32)) (vY8 : Int32) (vY9 : Int32) (vY10 : Int32) (i1 : Int32) (sz : Nat) {q : Int32} (h : pX3_noteLinesOf vY5 vY6 vY8 i1 = some q) : kMi l yX3_noteLinesOf wsX3_noteLinesOf ({ frames := 2, cells := 0, slots := 0, locals := 42 } : Room) D (kTy cI cC cS) [.ref aY.1, .int i1] (wLY cI aY vY0 vY1 vY2 vY3 vY4 vY5 vY6 vY7 vY8 vY9 vY10) sz q (wLY cI aY vY0 vY1 vY2 vY3 vY4 vY5 vY6 vY7 vY8 vY9 vY10) := by
  refine Met.ofW (cc := cX3_noteLinesOf) (maxL := 4) (ret := (some .int)) (by decide) rfl ?_
  intro p e s m args below meth c s₁ B hml hv
  obtain ⟨rfl, hsz, hP, hK, hD0, hN⟩ := hv
  have hx := B.exec
  have hb := B.bytes
  have hr := B.returns
  have hts := atoms_spec (ws := wsX3_noteLinesOf) B.pre
  have hown : s.vm.findClass RX3 = some m.cls := findClass_of_methodNamed B.named
  have hlocks := B.notSynchronized
  subst hsz
  have hD := hD0.self (sz := s.heap.size)
  generalize hAe : va_A (wLY cI aY vY0 vY1 vY2 vY3 vY4 vY5 vY6 vY7 vY8 vY9 vY10) s.heap.size = A at hD ⊢
  have hA : ∀ q : Nat, s.heap.size ≤ q → A q := fun q h => by rw [← hAe]; exact Or.inr h
  have hS : va_S A s.heap s.heap [] := va_S.rf
  have huX3 : ∀ w ∈ u_ws RX3 TX3 11, w ∈ wsX3_noteLinesOf := by decide +kernel
  have hl := lv_entry ([.ref aY.1, .int i1]) (n := 4) (Nat.le_of_ble_eq_true rfl)
  rw [lg_entry_eq]
  generalize (lg_sl ([.ref aY.1, .int i1]) ++ List.replicate (4 - (lg_sl ([.ref aY.1, .int i1])).length) Slot.unset).toArray = ls at hl ⊢
  have hl : lv_has ls 4 [(0, .ref aY.1), (1, .int i1)] := hl
  have L4 : ∀ (nL4 : Nat) (y1 : Int32) (y2 : Int32) (y3 : Int32) (H : Heap) (locs : List Loc) (ls : Array Slot), pX3_noteLinesOf_L4 vY5 vY6 vY8 nL4 y1 y2 y3 = some q → va_P D vwCl (wLY cI aY vY0 vY1 vY2 vY3 vY4 vY5 vY6 vY7 vY8 vY9 vY10) H → va_S A s.heap H locs → lv_has ls 4 [(0, .ref aY.1), (1, .int y1), (2, .int y2), (3, .int y3)] → W p l e ({ frames := 2, cells := 0, slots := 0, locals := 42 } : Room) s m ([.ref aY.1, .int i1] : List Value).toArray below meth c H locs 0 0 (MQ below (va_Qi (fun (r : Int32) (_ : Unit) => r = q) (fun _ => kPost D (wLY cI aY vY0 vY1 vY2 vY3 vY4 vY5 vY6 vY7 vY8 vY9 vY10) A) A) ([.ref aY.1, .int i1] : List Value).toArray s 0 0 A) (F0 m 4 ls []) := by
    clear h hP hS hl
    intro nL4
    induction nL4 with
    | zero => intro y1 y2 y3 H locs ls h; have h : (none : Option (Int32)) = some q := h; cases h
    | succ nL4 ihL4 =>
      have j31 : ∀ (y1 : Int32) (y3 : Int32) (t0 : Int32) (t1 : Int32) (H : Heap) (locs : List Loc) (ls : Array Slot), pX3_noteLinesOf_j31 vY5 vY6 vY8 (pX3_noteLinesOf_L4 vY5 vY6 vY8 nL4) y1 y3 t0 t1 = some q → va_P D vwCl (wLY cI aY vY0 vY1 vY2 vY3 vY4 vY5 vY6 vY7 vY8 vY9 vY10) H → va_S A s.heap H locs → lv_has ls 4 [(0, .ref aY.1), (1, .int y1), (3, .int y3)] → W p l e ({ frames := 2, cells := 0, slots := 0, locals := 42 } : Room) s m ([.ref aY.1, .int i1] : List Value).toArray below meth c H locs 0 0 (MQ below (va_Qi (fun (r : Int32) (_ : Unit) => r = q) (fun _ => kPost D (wLY cI aY vY0 vY1 vY2 vY3 vY4 vY5 vY6 vY7 vY8 vY9 vY10) A) A) ([.ref aY.1, .int i1] : List Value).toArray s 0 0 A) (F0 m 31 ls [.int t1, .int t0]) := by
        skip
        intro y1 y3 t0 t1 H locs ls h hP hS hl
        unfold pX3_noteLinesOf_j31 at h
        refine lv_iadd hx hb dX3_noteLinesOf_31 ?_
        refine lv_istore_n (lv' := [(2, .int (t0 + t1)), (0, .ref aY.1), (1, .int y1), (3, .int y3)]) hx hb dX3_noteLinesOf_32 rfl hl (by decide) rfl (fun ls hl => ?_)
        refine lv_iinc (v := (y3 + (1 : Int32))) (lv' := [(3, .int (y3 + (1 : Int32))), (2, .int (t0 + t1)), (0, .ref aY.1), (1, .int y1)]) hx hb dX3_noteLinesOf_33 hl (k := 3) rfl rfl (by decide) rfl (fun ls hl => ?_)
        refine lv_goto (tgt := 4) hx hb dX3_noteLinesOf_36 (by decide) ?_
        exact ihL4 y1 (t0 + t1) (y3 + (1 : Int32)) _ _ _ h hP hS (lv_sub hl [2, 3, 1, 0] rfl)
      intro y1 y2 y3 H locs ls h hP hS hl
      have h : pX3_noteLinesOf_bL4 vY5 vY6 vY8 (pX3_noteLinesOf_L4 vY5 vY6 vY8 nL4) y1 y2 y3 = some q := h
      unfold pX3_noteLinesOf_bL4 at h
      refine lv_iload_n hx hb dX3_noteLinesOf_4 rfl (lv_at hl 3 rfl) ?_
      refine lv_aload_n hx hb dX3_noteLinesOf_5 rfl (lv_at hl 0 rfl) ?_
      refine va_get (D := D) (ci := 3) (v := .int vY8) (C := RX3) (T := TX3) (N := 11) hx hb hts huX3 hown hK hP 0 rfl rfl 8 (by decide) (hts (.fieldLink RX3 54 "VerseColumns$Layout" "groups" "I") (by decide +kernel)) (fun _ h9 => h9) rfl dX3_noteLinesOf_6 ?_
      refine lv_icmp_ge (tgt := 39) hx hb dX3_noteLinesOf_9 (by decide) (fun g => ?_) (fun g => ?_)
      · rw [if_pos g] at h
        refine lv_iload_n hx hb dX3_noteLinesOf_39 rfl (lv_at hl 2 rfl) ?_
        obtain ⟨q2, h1, h⟩ := Option.bind_eq_some_iff.mp h
        refine kcir [] (va_runS (As := [.int y2]) (rest := []) ⟨hx, hb, hml, hown, hts⟩ (kX3_withRule l D cI cC cS y2 H.size h1) (cwS 1 hts gX3_noteLinesOf_X3_withRule rfl rfl rfl (by decide +kernel) ⟨Nat.le_of_ble_eq_true rfl, Nat.le_of_ble_eq_true rfl⟩) (kpre hK hN hP hD [] rfl (by decide)) rfl rfl hl.1 rfl (lv_room (Nat.le_of_ble_eq_true rfl)) dX3_noteLinesOf_40 ⟨Nat.le_refl _, Nat.le_refl _⟩) hP hD hS hA rfl (fun H locs hP hS => ?_)
        obtain rfl := Option.some.inj h
        exact W.iret (v := q2) hx hb hr (fun t ht hW => ⟨⟨_, (), rfl, rfl, by rw [ht]; exact hP, hD⟩, hS.F ht⟩) hS.2.2 dX3_noteLinesOf_43
      · rw [if_neg g] at h
        refine lv_iload_n hx hb dX3_noteLinesOf_12 rfl (lv_at hl 2 rfl) ?_
        refine lv_aload_n hx hb dX3_noteLinesOf_13 rfl (lv_at hl 0 rfl) ?_
        refine lv_iload_n hx hb dX3_noteLinesOf_14 rfl (lv_at hl 3 rfl) ?_
        obtain ⟨q4, h3, h⟩ := Option.bind_eq_some_iff.mp h
        refine kcir [0, 1, 2, 3, 4] (va_runV (As := [.int y3]) (rest := [.int y2]) ⟨hx, hb, hml, hown, hts⟩ (kX3_pageOf l D cI cC cS aY vY0 vY1 vY2 vY3 vY4 vY5 vY6 vY7 vY8 vY9 vY10 y3 H.size h3) (cwV 1 hts gX3_noteLinesOf_X3_pageOf rfl rfl rfl (by decide +kernel) ⟨Nat.le_of_ble_eq_true rfl, Nat.le_of_ble_eq_true rfl⟩) (kpreV hK hN hP hD [0, 1, 2, 3, 4] rfl (by decide) 3 rfl rfl) rfl rfl hl.1 rfl (lv_room (Nat.le_of_ble_eq_true rfl)) dX3_noteLinesOf_15 ⟨Nat.le_refl _, Nat.le_refl _⟩) hP hD hS hA rfl (fun H locs hP hS => ?_)
        refine lv_iload_n hx hb dX3_noteLinesOf_18 rfl (lv_at hl 1 rfl) ?_
        refine lv_icmp_ne (tgt := 30) hx hb dX3_noteLinesOf_19 (by decide) (fun g => ?_) (fun g => ?_)
        · rw [if_neg g] at h
          refine lv_iconst (v := (0 : Int32)) hx hb dX3_noteLinesOf_30 (by decide) ?_
          exact j31 y1 y3 y2 (0 : Int32) _ _ _ h hP hS (lv_sub hl [0, 1, 3] rfl)
        · rw [if_pos g] at h
          refine lv_aload_n hx hb dX3_noteLinesOf_22 rfl (lv_at hl 0 rfl) ?_
          refine lv_iload_n hx hb dX3_noteLinesOf_23 rfl (lv_at hl 3 rfl) ?_
          obtain ⟨q6, h5, h⟩ := Option.bind_eq_some_iff.mp h
          refine kcir [0, 1, 2, 3, 4] (va_runV (As := [.int y3]) (rest := [.int y2]) ⟨hx, hb, hml, hown, hts⟩ (kX3_notesOf l D cI cC cS aY vY0 vY1 vY2 vY3 vY4 vY5 vY6 vY7 vY8 vY9 vY10 y3 H.size h5) (cwV 1 hts gX3_noteLinesOf_X3_notesOf rfl rfl rfl (by decide +kernel) ⟨Nat.le_of_ble_eq_true rfl, Nat.le_of_ble_eq_true rfl⟩) (kpreV hK hN hP hD [0, 1, 2, 3, 4] rfl (by decide) 3 rfl rfl) rfl rfl hl.1 rfl (lv_room (Nat.le_of_ble_eq_true rfl)) dX3_noteLinesOf_24 ⟨Nat.le_refl _, Nat.le_refl _⟩) hP hD hS hA rfl (fun H locs hP hS => ?_)
          refine lv_goto (tgt := 31) hx hb dX3_noteLinesOf_27 (by decide) ?_
          exact j31 y1 y3 y2 q6 _ _ _ h hP hS (lv_sub hl [0, 1, 3] rfl)
  unfold pX3_noteLinesOf at h
  refine lv_iconst (v := (0 : Int32)) hx hb dX3_noteLinesOf_0 (by decide) ?_
  refine lv_istore_n (lv' := [(2, .int (0 : Int32)), (0, .ref aY.1), (1, .int i1)]) hx hb dX3_noteLinesOf_1 rfl hl (by decide) rfl (fun ls hl => ?_)
  refine lv_iconst (v := (0 : Int32)) hx hb dX3_noteLinesOf_2 (by decide) ?_
  refine lv_istore_n (lv' := [(3, .int (0 : Int32)), (2, .int (0 : Int32)), (0, .ref aY.1), (1, .int i1)]) hx hb dX3_noteLinesOf_3 rfl hl (by decide) rfl (fun ls hl => ?_)
  exact L4 4000 i1 (0 : Int32) (0 : Int32) _ _ _ h hP hS (lv_sub hl [2, 3, 1, 0] rfl)
set_option maxHeartbeats 8000000 in
set_option maxRecDepth 100000 in
theorem kX3_overflows (l : Launch) (D : va_G) (cI cC cS : ClassId) (aY : Nat × Nat × Nat × Nat × Nat) (vY0 : Int32) (vY1 : Int32) (vY2 : Int32) (vY3 : Int32) (vY4 : (Nat → Int32)) (vY5 : (Nat → Int32)) (vY6 : (Nat → Int32)) (vY7 : (Nat → Int32)) (vY8 : Int32) (vY9 : Int32) (vY10 : Int32) (i1 : Int32) (sz : Nat) {q : Int32} (h : pX3_overflows vY2 vY4 vY5 vY6 vY8 i1 = some q) : kMi l yX3_overflows wsX3_overflows ({ frames := 3, cells := 0, slots := 0, locals := 65 } : Room) D (kTy cI cC cS) [.ref aY.1, .int i1] (wLY cI aY vY0 vY1 vY2 vY3 vY4 vY5 vY6 vY7 vY8 vY9 vY10) sz q (wLY cI aY vY0 vY1 vY2 vY3 vY4 vY5 vY6 vY7 vY8 vY9 vY10) := by
  refine Met.ofW (cc := cX3_overflows) (maxL := 2) (ret := (some .boolean)) (by decide) rfl ?_
  intro p e s m args below meth c s₁ B hml hv
  obtain ⟨rfl, hsz, hP, hK, hD0, hN⟩ := hv
  have hx := B.exec
  have hb := B.bytes
  have hr := B.returns
  have hts := atoms_spec (ws := wsX3_overflows) B.pre
  have hown : s.vm.findClass RX3 = some m.cls := findClass_of_methodNamed B.named
  have hlocks := B.notSynchronized
  subst hsz
  have hD := hD0.self (sz := s.heap.size)
  generalize hAe : va_A (wLY cI aY vY0 vY1 vY2 vY3 vY4 vY5 vY6 vY7 vY8 vY9 vY10) s.heap.size = A at hD ⊢
  have hA : ∀ q : Nat, s.heap.size ≤ q → A q := fun q h => by rw [← hAe]; exact Or.inr h
  have hS : va_S A s.heap s.heap [] := va_S.rf
  have huX3 : ∀ w ∈ u_ws RX3 TX3 11, w ∈ wsX3_overflows := by decide +kernel
  have hl := lv_entry ([.ref aY.1, .int i1]) (n := 2) (Nat.le_of_ble_eq_true rfl)
  rw [lg_entry_eq]
  generalize (lg_sl ([.ref aY.1, .int i1]) ++ List.replicate (2 - (lg_sl ([.ref aY.1, .int i1])).length) Slot.unset).toArray = ls at hl ⊢
  have hl : lv_has ls 2 [(0, .ref aY.1), (1, .int i1)] := hl
  unfold pX3_overflows at h
  refine lv_aload_n hx hb dX3_overflows_0 rfl (lv_at hl 0 rfl) ?_
  refine lv_iload_n hx hb dX3_overflows_1 rfl (lv_at hl 1 rfl) ?_
  obtain ⟨q2, h1, h⟩ := Option.bind_eq_some_iff.mp h
  refine kcir [0, 1, 2, 3, 4] (va_runV (As := [.int i1]) (rest := []) ⟨hx, hb, hml, hown, hts⟩ (kX3_heightSumOf l D cI cC cS aY vY0 vY1 vY2 vY3 vY4 vY5 vY6 vY7 vY8 vY9 vY10 i1 s.heap.size h1) (cwV 1 hts gX3_overflows_X3_heightSumOf rfl rfl rfl (by decide +kernel) ⟨Nat.le_of_ble_eq_true rfl, Nat.le_of_ble_eq_true rfl⟩) (kpreV hK hN hP hD [0, 1, 2, 3, 4] rfl (by decide) 3 rfl rfl) rfl rfl hl.1 rfl (lv_room (Nat.le_of_ble_eq_true rfl)) dX3_overflows_2 ⟨Nat.le_refl _, Nat.le_refl _⟩) hP hD hS hA rfl (fun H locs hP hS => ?_)
  refine lv_aload_n hx hb dX3_overflows_5 rfl (lv_at hl 0 rfl) ?_
  refine lv_iload_n hx hb dX3_overflows_6 rfl (lv_at hl 1 rfl) ?_
  obtain ⟨q4, h3, h⟩ := Option.bind_eq_some_iff.mp h
  refine kcir [0, 1, 2, 3, 4] (va_runV (As := [.int i1]) (rest := [.int q2]) ⟨hx, hb, hml, hown, hts⟩ (kX3_noteLinesOf l D cI cC cS aY vY0 vY1 vY2 vY3 vY4 vY5 vY6 vY7 vY8 vY9 vY10 i1 H.size h3) (cwV 1 hts gX3_overflows_X3_noteLinesOf rfl rfl rfl (by decide +kernel) ⟨Nat.le_of_ble_eq_true rfl, Nat.le_of_ble_eq_true rfl⟩) (kpreV hK hN hP hD [0, 1, 2, 3, 4] rfl (by decide) 3 rfl rfl) rfl rfl hl.1 rfl (lv_room (Nat.le_of_ble_eq_true rfl)) dX3_overflows_7 ⟨Nat.le_refl _, Nat.le_refl _⟩) hP hD hS hA rfl (fun H locs hP hS => ?_)
  refine lv_iadd hx hb dX3_overflows_10 ?_
  refine lv_aload_n hx hb dX3_overflows_11 rfl (lv_at hl 0 rfl) ?_
  refine va_get (D := D) (ci := 3) (v := .int vY2) (C := RX3) (T := TX3) (N := 11) hx hb hts huX3 hown hK hP 0 rfl rfl 2 (by decide) (hts (.fieldLink RX3 18 "VerseColumns$Layout" "pageHeight" "I") (by decide +kernel)) (fun _ h9 => h9) rfl dX3_overflows_12 ?_
  refine lv_icmp_le (tgt := 22) hx hb dX3_overflows_15 (by decide) (fun g => ?_) (fun g => ?_)
  · rw [if_pos g] at h
    refine lv_iconst (v := (0 : Int32)) hx hb dX3_overflows_22 (by decide) ?_
    obtain rfl := Option.some.inj h
    exact W.zret (v := (0 : Int32)) hx hb hr rfl (fun t ht hW => ⟨⟨_, (), rfl, rfl, by rw [ht]; exact hP, hD⟩, hS.F ht⟩) hS.2.2 dX3_overflows_23
  · rw [if_neg g] at h
    refine lv_iconst (v := (1 : Int32)) hx hb dX3_overflows_18 (by decide) ?_
    refine lv_goto (tgt := 23) hx hb dX3_overflows_19 (by decide) ?_
    obtain rfl := Option.some.inj h
    exact W.zret (v := (1 : Int32)) hx hb hr rfl (fun t ht hW => ⟨⟨_, (), rfl, rfl, by rw [ht]; exact hP, hD⟩, hS.F ht⟩) hS.2.2 dX3_overflows_23
set_option maxHeartbeats 8000000 in
set_option maxRecDepth 100000 in
theorem kX3_measureGroups (l : Launch) (D : va_G) (cI cC cS : ClassId) (aY : Nat × Nat × Nat × Nat × Nat) (vY0 : Int32) (vY1 : Int32) (vY2 : Int32) (vY3 : Int32) (vY4 : (Nat → Int32)) (vY5 : (Nat → Int32)) (vY6 : (Nat → Int32)) (vY7 : (Nat → Int32)) (vY8 : Int32) (vY9 : Int32) (vY10 : Int32) (aS : Nat) (aL : Nat × Nat × Nat × Nat) (vL0 : (Nat → Int32)) (vL1 : (Nat → Int32)) (vL2 : (Nat → Int32)) (vL3 : Int32) (aR : Nat × Nat × Nat × Nat) (vR0 : (Nat → Int32)) (vR1 : (Nat → Int32)) (vR2 : (Nat → Int32)) (vR3 : Int32) (aM : Nat × Nat × Nat) (vM0 : (Nat → Int32)) (vM1 : (Nat → Int32)) (vM2 : Int32) (sz : Nat) {q : (Nat → Int32) × (Nat → Int32) × Int32} (h : pX3_measureGroups vY0 vY1 vY3 vY4 vY5 vY8 vL0 vL1 vL2 vL3 vR0 vR1 vR2 vR3 vM0 vM1 vM2 = some q) : kMv l yX3_measureGroups wsX3_measureGroups ({ frames := 4, cells := 0, slots := 0, locals := 89 } : Room) D (kTy cI cC cS) [.ref aY.1, .ref aS] (wLY cI aY vY0 vY1 vY2 vY3 vY4 vY5 vY6 vY7 vY8 vY9 vY10 ++ (wSC aS aL.1 aR.1 aM.1 ++ (wBK cI aL vL0 vL1 vL2 vL3 ++ (wBK cI aR vR0 vR1 vR2 vR3 ++ wMP cI aM vM0 vM1 vM2)))) sz (wLY cI aY vY0 vY1 vY2 vY3 q.1 q.2.1 vY6 vY7 vY8 vY9 q.2.2 ++ (wSC aS aL.1 aR.1 aM.1 ++ (wBK cI aL vL0 vL1 vL2 vL3 ++ (wBK cI aR vR0 vR1 vR2 vR3 ++ wMP cI aM vM0 vM1 vM2)))) := by
  refine Met.ofW (cc := cX3_measureGroups) (maxL := 9) (ret := none) (by decide) rfl ?_
  intro p e s m args below meth c s₁ B hml hv
  obtain ⟨rfl, hsz, hP, hK, hD0, hN⟩ := hv
  have hx := B.exec
  have hb := B.bytes
  have hr := B.returns
  have hts := atoms_spec (ws := wsX3_measureGroups) B.pre
  have hown : s.vm.findClass RX3 = some m.cls := findClass_of_methodNamed B.named
  have hlocks := B.notSynchronized
  subst hsz
  have hD := hD0.self (sz := s.heap.size)
  generalize hAe : va_A (wLY cI aY vY0 vY1 vY2 vY3 vY4 vY5 vY6 vY7 vY8 vY9 vY10 ++ (wSC aS aL.1 aR.1 aM.1 ++ (wBK cI aL vL0 vL1 vL2 vL3 ++ (wBK cI aR vR0 vR1 vR2 vR3 ++ wMP cI aM vM0 vM1 vM2)))) s.heap.size = A at hD ⊢
  have hA : ∀ q : Nat, s.heap.size ≤ q → A q := fun q h => by rw [← hAe]; exact Or.inr h
  have hS : va_S A s.heap s.heap [] := va_S.rf
  have huX3 : ∀ w ∈ u_ws RX3 TX3 11, w ∈ wsX3_measureGroups := by decide +kernel
  have huX7 : ∀ w ∈ u_ws RX7 TX7 3, w ∈ wsX3_measureGroups := by decide +kernel
  have hl := lv_entry ([.ref aY.1, .ref aS]) (n := 9) (Nat.le_of_ble_eq_true rfl)
  rw [lg_entry_eq]
  generalize (lg_sl ([.ref aY.1, .ref aS]) ++ List.replicate (9 - (lg_sl ([.ref aY.1, .ref aS])).length) Slot.unset).toArray = ls at hl ⊢
  have hl : lv_has ls 9 [(0, .ref aY.1), (1, .ref aS)] := hl
  have L12 : ∀ (nL12 : Nat) (c0_4 : (Nat → Int32)) (c0_5 : (Nat → Int32)) (c0_10 : Int32) (y2 : Int32) (y3 : Int32) (y4 : Int32) (H : Heap) (locs : List Loc) (ls : Array Slot), pX3_measureGroups_L12 vY0 vY1 vY3 vY8 vL0 vL1 vL2 vL3 vR0 vR1 vR2 vR3 vM0 vM1 vM2 nL12 c0_4 c0_5 c0_10 y2 y3 y4 = some q → va_P D vwCl (wLY cI aY vY0 vY1 vY2 vY3 c0_4 c0_5 vY6 vY7 vY8 vY9 c0_10 ++ (wSC aS aL.1 aR.1 aM.1 ++ (wBK cI aL vL0 vL1 vL2 vL3 ++ (wBK cI aR vR0 vR1 vR2 vR3 ++ wMP cI aM vM0 vM1 vM2)))) H → va_D A (wLY cI aY vY0 vY1 vY2 vY3 c0_4 c0_5 vY6 vY7 vY8 vY9 c0_10 ++ (wSC aS aL.1 aR.1 aM.1 ++ (wBK cI aL vL0 vL1 vL2 vL3 ++ (wBK cI aR vR0 vR1 vR2 vR3 ++ wMP cI aM vM0 vM1 vM2)))) → va_S A s.heap H locs → lv_has ls 9 [(0, .ref aY.1), (1, .ref aS), (2, .int y2), (3, .int y3), (4, .int y4)] → W p l e ({ frames := 4, cells := 0, slots := 0, locals := 89 } : Room) s m ([.ref aY.1, .ref aS] : List Value).toArray below meth c H locs 0 0 (MQ below (va_Qv (fun (_ : Unit) => True) (fun _ => kPost D (wLY cI aY vY0 vY1 vY2 vY3 q.1 q.2.1 vY6 vY7 vY8 vY9 q.2.2 ++ (wSC aS aL.1 aR.1 aM.1 ++ (wBK cI aL vL0 vL1 vL2 vL3 ++ (wBK cI aR vR0 vR1 vR2 vR3 ++ wMP cI aM vM0 vM1 vM2)))) A) A) ([.ref aY.1, .ref aS] : List Value).toArray s 0 0 A) (F0 m 12 ls []) := by
    clear h hP hD hS hl
    intro nL12
    induction nL12 with
    | zero => intro c0_4 c0_5 c0_10 y2 y3 y4 H locs ls h; have h : (none : Option ((Nat → Int32) × (Nat → Int32) × Int32)) = some q := h; cases h
    | succ nL12 ihL12 =>
      intro c0_4 c0_5 c0_10 y2 y3 y4 H locs ls h hP hD hS hl
      have h : pX3_measureGroups_bL12 vY0 vY1 vY3 vY8 vL0 vL1 vL2 vL3 vR0 vR1 vR2 vR3 vM0 vM1 vM2 (pX3_measureGroups_L12 vY0 vY1 vY3 vY8 vL0 vL1 vL2 vL3 vR0 vR1 vR2 vR3 vM0 vM1 vM2 nL12) c0_4 c0_5 c0_10 y2 y3 y4 = some q := h
      unfold pX3_measureGroups_bL12 at h
      refine lv_iload hx hb dX3_measureGroups_12 (lv_at hl 4 rfl) ?_
      refine lv_aload_n hx hb dX3_measureGroups_14 rfl (lv_at hl 0 rfl) ?_
      refine va_get (D := D) (ci := 3) (v := .int vY8) (C := RX3) (T := TX3) (N := 11) hx hb hts huX3 hown hK hP 0 rfl rfl 8 (by decide) (hts (.fieldLink RX3 54 "VerseColumns$Layout" "groups" "I") (by decide +kernel)) (fun _ h9 => h9) rfl dX3_measureGroups_15 ?_
      refine lv_icmp_ge (tgt := 160) hx hb dX3_measureGroups_18 (by decide) (fun g => ?_) (fun g => ?_)
      · rw [if_pos g] at h
        obtain rfl := Option.some.inj h
        exact W.vret hx hb hr (fun t ht hW => ⟨⟨(), rfl, trivial, by rw [ht]; exact hP, hD⟩, hS.F ht⟩) hS.2.2 dX3_measureGroups_160
      · rw [if_neg g] at h
        refine lv_iload_n hx hb dX3_measureGroups_21 rfl (lv_at hl 2 rfl) ?_
        refine lv_aload_n hx hb dX3_measureGroups_22 rfl (lv_at hl 1 rfl) ?_
        refine va_getN (D := D) (ci := 7) (v := .ref aM.1) (C := RX7) (T := TX7) (N := 3) hx hb hts huX7 hown hK hP 5 rfl rfl 2 (by decide) (hN.f 12 rfl) (fun _ h9 => h9) rfl dX3_measureGroups_23 ?_
        refine lv_iload hx hb dX3_measureGroups_26 (lv_at hl 4 rfl) ?_
        refine lv_iconst (v := (0 : Int32)) hx hb dX3_measureGroups_28 (by decide) ?_
        obtain ⟨q2, h1, h⟩ := Option.bind_eq_some_iff.mp h
        refine kcir [14, 15, 16] (va_runV (As := [.int y4, .int (0 : Int32)]) (rest := [.int y2]) ⟨hx, hb, hml, hown, hts⟩ (kX1_sizeOf l D cI cC cS aM vM0 vM1 vM2 y4 (0 : Int32) H.size h1) (cwV 2 hts gX3_measureGroups_X1_sizeOf rfl rfl rfl (by decide +kernel) ⟨Nat.le_of_ble_eq_true rfl, Nat.le_of_ble_eq_true rfl⟩) (kpreV hK hN hP hD [14, 15, 16] rfl (by decide) 1 rfl rfl) rfl rfl hl.1 rfl (lv_room (Nat.le_of_ble_eq_true rfl)) dX3_measureGroups_29 ⟨Nat.le_refl _, Nat.le_refl _⟩) hP hD hS hA rfl (fun H locs hP hS => ?_)
        refine lv_iadd hx hb dX3_measureGroups_32 ?_
        refine lv_istore (lv' := [(5, .int (y2 + q2)), (0, .ref aY.1), (1, .ref aS), (2, .int y2), (3, .int y3), (4, .int y4)]) hx hb dX3_measureGroups_33 hl (by decide) rfl (fun ls hl => ?_)
        refine lv_iload_n hx hb dX3_measureGroups_35 rfl (lv_at hl 4 rfl) ?_
        refine lv_aload_n hx hb dX3_measureGroups_36 rfl (lv_at hl 2 rfl) ?_
        refine va_getN (D := D) (ci := 7) (v := .ref aM.1) (C := RX7) (T := TX7) (N := 3) hx hb hts huX7 hown hK hP 5 rfl rfl 2 (by decide) (hN.f 12 rfl) (fun _ h9 => h9) rfl dX3_measureGroups_37 ?_
        refine lv_iload hx hb dX3_measureGroups_40 (lv_at hl 5 rfl) ?_
        refine lv_iconst (v := (1 : Int32)) hx hb dX3_measureGroups_42 (by decide) ?_
        obtain ⟨q4, h3, h⟩ := Option.bind_eq_some_iff.mp h
        refine kcir [14, 15, 16] (va_runV (As := [.int y4, .int (1 : Int32)]) (rest := [.int y3]) ⟨hx, hb, hml, hown, hts⟩ (kX1_sizeOf l D cI cC cS aM vM0 vM1 vM2 y4 (1 : Int32) H.size h3) (cwV 2 hts gX3_measureGroups_X1_sizeOf rfl rfl rfl (by decide +kernel) ⟨Nat.le_of_ble_eq_true rfl, Nat.le_of_ble_eq_true rfl⟩) (kpreV hK hN hP hD [14, 15, 16] rfl (by decide) 1 rfl rfl) rfl rfl hl.1 rfl (lv_room (Nat.le_of_ble_eq_true rfl)) dX3_measureGroups_43 ⟨Nat.le_refl _, Nat.le_refl _⟩) hP hD hS hA rfl (fun H locs hP hS => ?_)
        refine lv_iadd hx hb dX3_measureGroups_46 ?_
        refine lv_istore (lv' := [(6, .int (y3 + q4)), (5, .int (y2 + q2)), (0, .ref aY.1), (1, .ref aS), (2, .int y2), (3, .int y3), (4, .int y4)]) hx hb dX3_measureGroups_47 hl (by decide) rfl (fun ls hl => ?_)
        refine lv_aload_n hx hb dX3_measureGroups_49 rfl (lv_at hl 3 rfl) ?_
        refine va_getN (D := D) (ci := 7) (v := .ref aL.1) (C := RX7) (T := TX7) (N := 3) hx hb hts huX7 hown hK hP 5 rfl rfl 0 (by decide) (hN.f 6 rfl) (fun _ h9 => h9) rfl dX3_measureGroups_50 ?_
        refine lv_iload_n hx hb dX3_measureGroups_53 rfl (lv_at hl 4 rfl) ?_
        refine lv_iload hx hb dX3_measureGroups_54 (lv_at hl 1 rfl) ?_
        refine lv_aload_n hx hb dX3_measureGroups_56 rfl (lv_at hl 2 rfl) ?_
        refine va_get (D := D) (ci := 3) (v := .int vY0) (C := RX3) (T := TX3) (N := 11) hx hb hts huX3 hown hK hP 0 rfl rfl 0 (by decide) (hts (.fieldLink RX3 9 "VerseColumns$Layout" "leftWidth" "I") (by decide +kernel)) (fun _ h9 => h9) rfl dX3_measureGroups_57 ?_
        refine lv_aload_n hx hb dX3_measureGroups_60 rfl (lv_at hl 2 rfl) ?_
        refine va_get (D := D) (ci := 3) (v := .int vY3) (C := RX3) (T := TX3) (N := 11) hx hb hts huX3 hown hK hP 0 rfl rfl 3 (by decide) (hts (.fieldLink RX3 21 "VerseColumns$Layout" "headingHeight" "I") (by decide +kernel)) (fun _ h9 => h9) rfl dX3_measureGroups_61 ?_
        obtain ⟨q6, h5, h⟩ := Option.bind_eq_some_iff.mp h
        refine kcir [6, 7, 8, 9] (va_runV (As := [.int y2, .int (y2 + q2), .int vY0, .int vY3]) (rest := []) ⟨hx, hb, hml, hown, hts⟩ (kX0_linesOf l D cI cC cS aL vL0 vL1 vL2 vL3 y2 (y2 + q2) vY0 vY3 H.size h5) (cwV 4 hts gX3_measureGroups_X0_linesOf rfl rfl rfl (by decide +kernel) ⟨Nat.le_of_ble_eq_true rfl, Nat.le_of_ble_eq_true rfl⟩) (kpreV hK hN hP hD [6, 7, 8, 9] rfl (by decide) 0 rfl rfl) rfl rfl hl.1 rfl (lv_room (Nat.le_of_ble_eq_true rfl)) dX3_measureGroups_64 ⟨Nat.le_refl _, Nat.le_refl _⟩) hP hD hS hA rfl (fun H locs hP hS => ?_)
        refine lv_istore (lv' := [(7, .int q6), (6, .int (y3 + q4)), (5, .int (y2 + q2)), (0, .ref aY.1), (1, .ref aS), (2, .int y2), (3, .int y3), (4, .int y4)]) hx hb dX3_measureGroups_67 hl (by decide) rfl (fun ls hl => ?_)
        refine lv_aload_n hx hb dX3_measureGroups_69 rfl (lv_at hl 4 rfl) ?_
        refine va_getN (D := D) (ci := 7) (v := .ref aR.1) (C := RX7) (T := TX7) (N := 3) hx hb hts huX7 hown hK hP 5 rfl rfl 1 (by decide) (hN.f 9 rfl) (fun _ h9 => h9) rfl dX3_measureGroups_70 ?_
        refine lv_iload_n hx hb dX3_measureGroups_73 rfl (lv_at hl 6 rfl) ?_
        refine lv_iload hx hb dX3_measureGroups_74 (lv_at hl 1 rfl) ?_
        refine lv_aload_n hx hb dX3_measureGroups_76 rfl (lv_at hl 3 rfl) ?_
        refine va_get (D := D) (ci := 3) (v := .int vY1) (C := RX3) (T := TX3) (N := 11) hx hb hts huX3 hown hK hP 0 rfl rfl 1 (by decide) (hts (.fieldLink RX3 15 "VerseColumns$Layout" "rightWidth" "I") (by decide +kernel)) (fun _ h9 => h9) rfl dX3_measureGroups_77 ?_
        refine lv_aload_n hx hb dX3_measureGroups_80 rfl (lv_at hl 3 rfl) ?_
        refine va_get (D := D) (ci := 3) (v := .int vY3) (C := RX3) (T := TX3) (N := 11) hx hb hts huX3 hown hK hP 0 rfl rfl 3 (by decide) (hts (.fieldLink RX3 21 "VerseColumns$Layout" "headingHeight" "I") (by decide +kernel)) (fun _ h9 => h9) rfl dX3_measureGroups_81 ?_
        obtain ⟨q8, h7, h⟩ := Option.bind_eq_some_iff.mp h
        refine kcir [10, 11, 12, 13] (va_runV (As := [.int y3, .int (y3 + q4), .int vY1, .int vY3]) (rest := []) ⟨hx, hb, hml, hown, hts⟩ (kX0_linesOf l D cI cC cS aR vR0 vR1 vR2 vR3 y3 (y3 + q4) vY1 vY3 H.size h7) (cwV 4 hts gX3_measureGroups_X0_linesOf rfl rfl rfl (by decide +kernel) ⟨Nat.le_of_ble_eq_true rfl, Nat.le_of_ble_eq_true rfl⟩) (kpreV hK hN hP hD [10, 11, 12, 13] rfl (by decide) 0 rfl rfl) rfl rfl hl.1 rfl (lv_room (Nat.le_of_ble_eq_true rfl)) dX3_measureGroups_84 ⟨Nat.le_refl _, Nat.le_refl _⟩) hP hD hS hA rfl (fun H locs hP hS => ?_)
        refine lv_istore (lv' := [(8, .int q8), (7, .int q6), (6, .int (y3 + q4)), (5, .int (y2 + q2)), (0, .ref aY.1), (1, .ref aS), (2, .int y2), (3, .int y3), (4, .int y4)]) hx hb dX3_measureGroups_87 hl (by decide) rfl (fun ls hl => ?_)
        refine lv_aload_n hx hb dX3_measureGroups_89 rfl (lv_at hl 4 rfl) ?_
        refine va_get (D := D) (ci := 3) (v := .ref aY.2.1) (C := RX3) (T := TX3) (N := 11) hx hb hts huX3 hown hK hP 0 rfl rfl 4 (by decide) (hts (.fieldLink RX3 24 "VerseColumns$Layout" "heights" "[I") (by decide +kernel)) (fun _ h9 => h9) rfl dX3_measureGroups_90 ?_
        refine lv_iload hx hb dX3_measureGroups_93 (lv_at hl 8 rfl) ?_
        refine lv_iload hx hb dX3_measureGroups_95 (lv_at hl 1 rfl) ?_
        refine lv_iload hx hb dX3_measureGroups_97 (lv_at hl 0 rfl) ?_
        refine va_mmax hx hb (hml.trans hl.1.symm) hown (hts (.methodLink RX3 81 Lib.Math.max.name) (by decide +kernel)) (hts (.static Lib.Math.max.name) (by decide +kernel)) (hts (.initialized "java/lang/Math") (by decide +kernel)) (hts (.code Lib.Math.max.name Lib.Math.max.code 2 (some .int)) (by decide +kernel)) (Nat.le_of_ble_eq_true rfl) (Nat.le_of_ble_eq_true rfl) (Nat.le_refl _) (Nat.le_refl _) dX3_measureGroups_99 ?_
        obtain ⟨g, h⟩ := kif h
        refine va_iast hx hb hK hP hD hS 1 0 rfl rfl (kin g) dX3_measureGroups_102 (fun H locs hP hD hS => ?_)
        have hP : va_P D vwCl (wLY cI aY vY0 vY1 vY2 vY3 (upd c0_4 y4.toNatClampNeg (if q6 < q8 then q8 else q6)) c0_5 vY6 vY7 vY8 vY9 c0_10 ++ (wSC aS aL.1 aR.1 aM.1 ++ (wBK cI aL vL0 vL1 vL2 vL3 ++ (wBK cI aR vR0 vR1 vR2 vR3 ++ wMP cI aM vM0 vM1 vM2)))) H := hP
        have hD : va_D A (wLY cI aY vY0 vY1 vY2 vY3 (upd c0_4 y4.toNatClampNeg (if q6 < q8 then q8 else q6)) c0_5 vY6 vY7 vY8 vY9 c0_10 ++ (wSC aS aL.1 aR.1 aM.1 ++ (wBK cI aL vL0 vL1 vL2 vL3 ++ (wBK cI aR vR0 vR1 vR2 vR3 ++ wMP cI aM vM0 vM1 vM2)))) := hD
        refine lv_aload_n hx hb dX3_measureGroups_103 rfl (lv_at hl 4 rfl) ?_
        refine lv_dup hx hb dX3_measureGroups_104 rfl ?_
        refine va_get (D := D) (ci := 3) (v := .int c0_10) (C := RX3) (T := TX3) (N := 11) hx hb hts huX3 hown hK hP 0 rfl rfl 10 (by decide) (hts (.fieldLink RX3 62 "VerseColumns$Layout" "emptyLines" "I") (by decide +kernel)) (fun _ h9 => h9) rfl dX3_measureGroups_105 ?_
        refine lv_iload hx hb dX3_measureGroups_108 (lv_at hl 1 rfl) ?_
        refine lv_iload hx hb dX3_measureGroups_110 (lv_at hl 0 rfl) ?_
        refine lv_isub hx hb dX3_measureGroups_112 ?_
        refine va_mabs hx hb (hml.trans hl.1.symm) hown (hts (.methodLink RX3 84 Lib.Math.abs.name) (by decide +kernel)) (hts (.static Lib.Math.abs.name) (by decide +kernel)) (hts (.initialized "java/lang/Math") (by decide +kernel)) (hts (.code Lib.Math.abs.name Lib.Math.abs.code 1 (some .int)) (by decide +kernel)) (Nat.le_of_ble_eq_true rfl) (Nat.le_of_ble_eq_true rfl) (Nat.le_refl _) (Nat.le_refl _) dX3_measureGroups_113 ?_
        refine lv_iadd hx hb dX3_measureGroups_116 ?_
        refine va_put (D := D) (ci := 3) (v := .int (c0_10 + (if 0 ≤ (q6 - q8) then (q6 - q8) else 0 - (q6 - q8)))) (ty := .int) (C := RX3) (T := TX3) (N := 11) hx hb hts huX3 tyX3 tyX3_ok nmX3 hown hK hP hD hS 0 rfl rfl 10 (by decide) (hts (.fieldLink RX3 62 "VerseColumns$Layout" "emptyLines" "I") (by decide +kernel)) (fun _ h9 => h9) rfl (by decide +kernel) rfl rfl (Nat.le_of_ble_eq_true rfl) dX3_measureGroups_117 (fun H locs hP hD hS => ?_)
        have hP : va_P D vwCl (wLY cI aY vY0 vY1 vY2 vY3 (upd c0_4 y4.toNatClampNeg (if q6 < q8 then q8 else q6)) c0_5 vY6 vY7 vY8 vY9 (c0_10 + (if 0 ≤ (q6 - q8) then (q6 - q8) else 0 - (q6 - q8))) ++ (wSC aS aL.1 aR.1 aM.1 ++ (wBK cI aL vL0 vL1 vL2 vL3 ++ (wBK cI aR vR0 vR1 vR2 vR3 ++ wMP cI aM vM0 vM1 vM2)))) H := hP
        have hD : va_D A (wLY cI aY vY0 vY1 vY2 vY3 (upd c0_4 y4.toNatClampNeg (if q6 < q8 then q8 else q6)) c0_5 vY6 vY7 vY8 vY9 (c0_10 + (if 0 ≤ (q6 - q8) then (q6 - q8) else 0 - (q6 - q8))) ++ (wSC aS aL.1 aR.1 aM.1 ++ (wBK cI aL vL0 vL1 vL2 vL3 ++ (wBK cI aR vR0 vR1 vR2 vR3 ++ wMP cI aM vM0 vM1 vM2)))) := hD
        refine lv_aload_n hx hb dX3_measureGroups_120 rfl (lv_at hl 4 rfl) ?_
        refine va_get (D := D) (ci := 3) (v := .ref aY.2.2.1) (C := RX3) (T := TX3) (N := 11) hx hb hts huX3 hown hK hP 0 rfl rfl 5 (by decide) (hts (.fieldLink RX3 28 "VerseColumns$Layout" "notes" "[I") (by decide +kernel)) (fun _ h9 => h9) rfl dX3_measureGroups_121 ?_
        refine lv_iload hx hb dX3_measureGroups_124 (lv_at hl 8 rfl) ?_
        refine lv_aload_n hx hb dX3_measureGroups_126 rfl (lv_at hl 5 rfl) ?_
        refine va_getN (D := D) (ci := 7) (v := .ref aL.1) (C := RX7) (T := TX7) (N := 3) hx hb hts huX7 hown hK hP 5 rfl rfl 0 (by decide) (hN.f 6 rfl) (fun _ h9 => h9) rfl dX3_measureGroups_127 ?_
        refine lv_iload_n hx hb dX3_measureGroups_130 rfl (lv_at hl 6 rfl) ?_
        refine lv_iload hx hb dX3_measureGroups_131 (lv_at hl 3 rfl) ?_
        obtain ⟨q10, h9, h⟩ := Option.bind_eq_some_iff.mp h
        refine kcir [6, 7, 8, 9] (va_runV (As := [.int y2, .int (y2 + q2)]) (rest := [.int y4, .ref aY.2.2.1]) ⟨hx, hb, hml, hown, hts⟩ (kX0_noteSumOf l D cI cC cS aL vL0 vL1 vL2 vL3 y2 (y2 + q2) H.size h9) (cwV 2 hts gX3_measureGroups_X0_noteSumOf rfl rfl rfl (by decide +kernel) ⟨Nat.le_of_ble_eq_true rfl, Nat.le_of_ble_eq_true rfl⟩) (kpreV hK hN hP hD [6, 7, 8, 9] rfl (by decide) 0 rfl rfl) rfl rfl hl.1 rfl (lv_room (Nat.le_of_ble_eq_true rfl)) dX3_measureGroups_133 ⟨Nat.le_refl _, Nat.le_refl _⟩) hP hD hS hA rfl (fun H locs hP hS => ?_)
        refine lv_aload_n hx hb dX3_measureGroups_136 rfl (lv_at hl 5 rfl) ?_
        refine va_getN (D := D) (ci := 7) (v := .ref aR.1) (C := RX7) (T := TX7) (N := 3) hx hb hts huX7 hown hK hP 5 rfl rfl 1 (by decide) (hN.f 9 rfl) (fun _ h9 => h9) rfl dX3_measureGroups_137 ?_
        refine lv_iload_n hx hb dX3_measureGroups_140 rfl (lv_at hl 7 rfl) ?_
        refine lv_iload hx hb dX3_measureGroups_141 (lv_at hl 2 rfl) ?_
        obtain ⟨q12, h11, h⟩ := Option.bind_eq_some_iff.mp h
        refine kcir [10, 11, 12, 13] (va_runV (As := [.int y3, .int (y3 + q4)]) (rest := [.int q10, .int y4, .ref aY.2.2.1]) ⟨hx, hb, hml, hown, hts⟩ (kX0_noteSumOf l D cI cC cS aR vR0 vR1 vR2 vR3 y3 (y3 + q4) H.size h11) (cwV 2 hts gX3_measureGroups_X0_noteSumOf rfl rfl rfl (by decide +kernel) ⟨Nat.le_of_ble_eq_true rfl, Nat.le_of_ble_eq_true rfl⟩) (kpreV hK hN hP hD [10, 11, 12, 13] rfl (by decide) 0 rfl rfl) rfl rfl hl.1 rfl (lv_room (Nat.le_of_ble_eq_true rfl)) dX3_measureGroups_143 ⟨Nat.le_refl _, Nat.le_refl _⟩) hP hD hS hA rfl (fun H locs hP hS => ?_)
        refine lv_iadd hx hb dX3_measureGroups_146 ?_
        obtain ⟨g, h⟩ := kif h
        refine va_iast hx hb hK hP hD hS 2 0 rfl rfl (kin g) dX3_measureGroups_147 (fun H locs hP hD hS => ?_)
        have hP : va_P D vwCl (wLY cI aY vY0 vY1 vY2 vY3 (upd c0_4 y4.toNatClampNeg (if q6 < q8 then q8 else q6)) (upd c0_5 y4.toNatClampNeg (q10 + q12)) vY6 vY7 vY8 vY9 (c0_10 + (if 0 ≤ (q6 - q8) then (q6 - q8) else 0 - (q6 - q8))) ++ (wSC aS aL.1 aR.1 aM.1 ++ (wBK cI aL vL0 vL1 vL2 vL3 ++ (wBK cI aR vR0 vR1 vR2 vR3 ++ wMP cI aM vM0 vM1 vM2)))) H := hP
        have hD : va_D A (wLY cI aY vY0 vY1 vY2 vY3 (upd c0_4 y4.toNatClampNeg (if q6 < q8 then q8 else q6)) (upd c0_5 y4.toNatClampNeg (q10 + q12)) vY6 vY7 vY8 vY9 (c0_10 + (if 0 ≤ (q6 - q8) then (q6 - q8) else 0 - (q6 - q8))) ++ (wSC aS aL.1 aR.1 aM.1 ++ (wBK cI aL vL0 vL1 vL2 vL3 ++ (wBK cI aR vR0 vR1 vR2 vR3 ++ wMP cI aM vM0 vM1 vM2)))) := hD
        refine lv_iload hx hb dX3_measureGroups_148 (lv_at hl 3 rfl) ?_
        refine lv_istore_n (lv' := [(2, .int (y2 + q2)), (8, .int q8), (7, .int q6), (6, .int (y3 + q4)), (5, .int (y2 + q2)), (0, .ref aY.1), (1, .ref aS), (3, .int y3), (4, .int y4)]) hx hb dX3_measureGroups_150 rfl hl (by decide) rfl (fun ls hl => ?_)
        refine lv_iload hx hb dX3_measureGroups_151 (lv_at hl 3 rfl) ?_
        refine lv_istore_n (lv' := [(3, .int (y3 + q4)), (2, .int (y2 + q2)), (8, .int q8), (7, .int q6), (6, .int (y3 + q4)), (5, .int (y2 + q2)), (0, .ref aY.1), (1, .ref aS), (4, .int y4)]) hx hb dX3_measureGroups_153 rfl hl (by decide) rfl (fun ls hl => ?_)
        refine lv_iinc (v := (y4 + (1 : Int32))) (lv' := [(4, .int (y4 + (1 : Int32))), (3, .int (y3 + q4)), (2, .int (y2 + q2)), (8, .int q8), (7, .int q6), (6, .int (y3 + q4)), (5, .int (y2 + q2)), (0, .ref aY.1), (1, .ref aS)]) hx hb dX3_measureGroups_154 hl (k := 8) rfl rfl (by decide) rfl (fun ls hl => ?_)
        refine lv_goto (tgt := 12) hx hb dX3_measureGroups_157 (by decide) ?_
        exact ihL12 (upd c0_4 y4.toNatClampNeg (if q6 < q8 then q8 else q6)) (upd c0_5 y4.toNatClampNeg (q10 + q12)) (c0_10 + (if 0 ≤ (q6 - q8) then (q6 - q8) else 0 - (q6 - q8))) (y2 + q2) (y3 + q4) (y4 + (1 : Int32)) _ _ _ h hP hD hS (lv_sub hl [7, 8, 2, 1, 0] rfl)
  unfold pX3_measureGroups at h
  refine lv_aload_n hx hb dX3_measureGroups_0 rfl (lv_at hl 0 rfl) ?_
  refine lv_iconst (v := (0 : Int32)) hx hb dX3_measureGroups_1 (by decide) ?_
  refine va_put (D := D) (ci := 3) (v := .int (0 : Int32)) (ty := .int) (C := RX3) (T := TX3) (N := 11) hx hb hts huX3 tyX3 tyX3_ok nmX3 hown hK hP hD hS 0 rfl rfl 10 (by decide) (hts (.fieldLink RX3 62 "VerseColumns$Layout" "emptyLines" "I") (by decide +kernel)) (fun _ h9 => h9) rfl (by decide +kernel) rfl rfl (Nat.le_of_ble_eq_true rfl) dX3_measureGroups_2 (fun H locs hP hD hS => ?_)
  have hP : va_P D vwCl (wLY cI aY vY0 vY1 vY2 vY3 vY4 vY5 vY6 vY7 vY8 vY9 (0 : Int32) ++ (wSC aS aL.1 aR.1 aM.1 ++ (wBK cI aL vL0 vL1 vL2 vL3 ++ (wBK cI aR vR0 vR1 vR2 vR3 ++ wMP cI aM vM0 vM1 vM2)))) H := hP
  have hD : va_D A (wLY cI aY vY0 vY1 vY2 vY3 vY4 vY5 vY6 vY7 vY8 vY9 (0 : Int32) ++ (wSC aS aL.1 aR.1 aM.1 ++ (wBK cI aL vL0 vL1 vL2 vL3 ++ (wBK cI aR vR0 vR1 vR2 vR3 ++ wMP cI aM vM0 vM1 vM2)))) := hD
  refine lv_iconst (v := (0 : Int32)) hx hb dX3_measureGroups_5 (by decide) ?_
  refine lv_istore_n (lv' := [(2, .int (0 : Int32)), (0, .ref aY.1), (1, .ref aS)]) hx hb dX3_measureGroups_6 rfl hl (by decide) rfl (fun ls hl => ?_)
  refine lv_iconst (v := (0 : Int32)) hx hb dX3_measureGroups_7 (by decide) ?_
  refine lv_istore_n (lv' := [(3, .int (0 : Int32)), (2, .int (0 : Int32)), (0, .ref aY.1), (1, .ref aS)]) hx hb dX3_measureGroups_8 rfl hl (by decide) rfl (fun ls hl => ?_)
  refine lv_iconst (v := (0 : Int32)) hx hb dX3_measureGroups_9 (by decide) ?_
  refine lv_istore (lv' := [(4, .int (0 : Int32)), (3, .int (0 : Int32)), (2, .int (0 : Int32)), (0, .ref aY.1), (1, .ref aS)]) hx hb dX3_measureGroups_10 hl (by decide) rfl (fun ls hl => ?_)
  exact L12 4000 vY4 vY5 (0 : Int32) (0 : Int32) (0 : Int32) (0 : Int32) _ _ _ h hP hD hS (lv_sub hl [3, 4, 2, 1, 0] rfl)
set_option maxHeartbeats 8000000 in
set_option maxRecDepth 100000 in
theorem kX3_arrange (l : Launch) (D : va_G) (cI cC cS : ClassId) (aY : Nat × Nat × Nat × Nat × Nat) (vY0 : Int32) (vY1 : Int32) (vY2 : Int32) (vY3 : Int32) (vY4 : (Nat → Int32)) (vY5 : (Nat → Int32)) (vY6 : (Nat → Int32)) (vY7 : (Nat → Int32)) (vY8 : Int32) (vY9 : Int32) (vY10 : Int32) (aS : Nat) (aL : Nat × Nat × Nat × Nat) (vL0 : (Nat → Int32)) (vL1 : (Nat → Int32)) (vL2 : (Nat → Int32)) (vL3 : Int32) (aR : Nat × Nat × Nat × Nat) (vR0 : (Nat → Int32)) (vR1 : (Nat → Int32)) (vR2 : (Nat → Int32)) (vR3 : Int32) (aM : Nat × Nat × Nat) (vM0 : (Nat → Int32)) (vM1 : (Nat → Int32)) (vM2 : Int32) (sz : Nat) {q : (Nat → Int32) × (Nat → Int32) × (Nat → Int32) × (Nat → Int32) × Int32 × Int32 × Int32} (h : pX3_arrange vY0 vY1 vY2 vY3 vY4 vY5 vY6 vY7 vY9 vL0 vL1 vL2 vL3 vR0 vR1 vR2 vR3 vM0 vM1 vM2 = some q) : kMv l yX3_arrange wsX3_arrange ({ frames := 5, cells := 0, slots := 0, locals := 117 } : Room) D (kTy cI cC cS) [.ref aY.1, .ref aS] (wLY cI aY vY0 vY1 vY2 vY3 vY4 vY5 vY6 vY7 vY8 vY9 vY10 ++ (wSC aS aL.1 aR.1 aM.1 ++ (wBK cI aL vL0 vL1 vL2 vL3 ++ (wBK cI aR vR0 vR1 vR2 vR3 ++ wMP cI aM vM0 vM1 vM2)))) sz (wLY cI aY vY0 vY1 vY2 vY3 q.1 q.2.1 q.2.2.1 q.2.2.2.1 q.2.2.2.2.1 q.2.2.2.2.2.1 q.2.2.2.2.2.2 ++ (wSC aS aL.1 aR.1 aM.1 ++ (wBK cI aL vL0 vL1 vL2 vL3 ++ (wBK cI aR vR0 vR1 vR2 vR3 ++ wMP cI aM vM0 vM1 vM2)))) := by
  refine Met.ofW (cc := cX3_arrange) (maxL := 2) (ret := none) (by decide) rfl ?_
  intro p e s m args below meth c s₁ B hml hv
  obtain ⟨rfl, hsz, hP, hK, hD0, hN⟩ := hv
  have hx := B.exec
  have hb := B.bytes
  have hr := B.returns
  have hts := atoms_spec (ws := wsX3_arrange) B.pre
  have hown : s.vm.findClass RX3 = some m.cls := findClass_of_methodNamed B.named
  have hlocks := B.notSynchronized
  subst hsz
  have hD := hD0.self (sz := s.heap.size)
  generalize hAe : va_A (wLY cI aY vY0 vY1 vY2 vY3 vY4 vY5 vY6 vY7 vY8 vY9 vY10 ++ (wSC aS aL.1 aR.1 aM.1 ++ (wBK cI aL vL0 vL1 vL2 vL3 ++ (wBK cI aR vR0 vR1 vR2 vR3 ++ wMP cI aM vM0 vM1 vM2)))) s.heap.size = A at hD ⊢
  have hA : ∀ q : Nat, s.heap.size ≤ q → A q := fun q h => by rw [← hAe]; exact Or.inr h
  have hS : va_S A s.heap s.heap [] := va_S.rf
  have huX1 : ∀ w ∈ u_ws RX1 TX1 3, w ∈ wsX3_arrange := by decide +kernel
  have huX3 : ∀ w ∈ u_ws RX3 TX3 11, w ∈ wsX3_arrange := by decide +kernel
  have huX7 : ∀ w ∈ u_ws RX7 TX7 3, w ∈ wsX3_arrange := by decide +kernel
  have hl := lv_entry ([.ref aY.1, .ref aS]) (n := 2) (Nat.le_of_ble_eq_true rfl)
  rw [lg_entry_eq]
  generalize (lg_sl ([.ref aY.1, .ref aS]) ++ List.replicate (2 - (lg_sl ([.ref aY.1, .ref aS])).length) Slot.unset).toArray = ls at hl ⊢
  have hl : lv_has ls 2 [(0, .ref aY.1), (1, .ref aS)] := hl
  unfold pX3_arrange at h
  refine lv_aload_n hx hb dX3_arrange_0 rfl (lv_at hl 0 rfl) ?_
  refine lv_aload_n hx hb dX3_arrange_1 rfl (lv_at hl 1 rfl) ?_
  refine va_getN (D := D) (ci := 7) (v := .ref aM.1) (C := RX7) (T := TX7) (N := 3) hx hb hts huX7 hown hK hP 5 rfl rfl 2 (by decide) (hN.f 12 rfl) (fun _ h9 => h9) rfl dX3_arrange_2 ?_
  refine va_getN (D := D) (ci := 1) (v := .int vM2) (C := RX1) (T := TX1) (N := 3) hx hb hts huX1 hown hK hP 14 rfl rfl 2 (by decide) (hN.f 3 rfl) (fun _ h9 => h9) rfl dX3_arrange_5 ?_
  refine lv_bipush (v := (120 : Int32)) hx hb dX3_arrange_8 (by decide) ?_
  refine va_mmin hx hb (hml.trans hl.1.symm) hown (hts (.methodLink RX3 48 Lib.Math.min.name) (by decide +kernel)) (hts (.static Lib.Math.min.name) (by decide +kernel)) (hts (.initialized "java/lang/Math") (by decide +kernel)) (hts (.code Lib.Math.min.name Lib.Math.min.code 2 (some .int)) (by decide +kernel)) (Nat.le_of_ble_eq_true rfl) (Nat.le_of_ble_eq_true rfl) (Nat.le_refl _) (Nat.le_refl _) dX3_arrange_10 ?_
  refine va_put (D := D) (ci := 3) (v := .int (if (120 : Int32) < vM2 then (120 : Int32) else vM2)) (ty := .int) (C := RX3) (T := TX3) (N := 11) hx hb hts huX3 tyX3 tyX3_ok nmX3 hown hK hP hD hS 0 rfl rfl 8 (by decide) (hts (.fieldLink RX3 54 "VerseColumns$Layout" "groups" "I") (by decide +kernel)) (fun _ h9 => h9) rfl (by decide +kernel) rfl rfl (Nat.le_of_ble_eq_true rfl) dX3_arrange_13 (fun H locs hP hD hS => ?_)
  have hP : va_P D vwCl (wLY cI aY vY0 vY1 vY2 vY3 vY4 vY5 vY6 vY7 (if (120 : Int32) < vM2 then (120 : Int32) else vM2) vY9 vY10 ++ (wSC aS aL.1 aR.1 aM.1 ++ (wBK cI aL vL0 vL1 vL2 vL3 ++ (wBK cI aR vR0 vR1 vR2 vR3 ++ wMP cI aM vM0 vM1 vM2)))) H := hP
  have hD : va_D A (wLY cI aY vY0 vY1 vY2 vY3 vY4 vY5 vY6 vY7 (if (120 : Int32) < vM2 then (120 : Int32) else vM2) vY9 vY10 ++ (wSC aS aL.1 aR.1 aM.1 ++ (wBK cI aL vL0 vL1 vL2 vL3 ++ (wBK cI aR vR0 vR1 vR2 vR3 ++ wMP cI aM vM0 vM1 vM2)))) := hD
  refine lv_aload_n hx hb dX3_arrange_16 rfl (lv_at hl 0 rfl) ?_
  refine lv_aload_n hx hb dX3_arrange_17 rfl (lv_at hl 1 rfl) ?_
  obtain ⟨q2, h1, h⟩ := Option.bind_eq_some_iff.mp h
  refine kcvw (ws' := (wLY cI aY vY0 vY1 vY2 vY3 q2.1 q2.2.1 vY6 vY7 (if (120 : Int32) < vM2 then (120 : Int32) else vM2) vY9 q2.2.2 ++ (wSC aS aL.1 aR.1 aM.1 ++ (wBK cI aL vL0 vL1 vL2 vL3 ++ (wBK cI aR vR0 vR1 vR2 vR3 ++ wMP cI aM vM0 vM1 vM2))))) [0, 1, 2, 3, 4, 5, 6, 7, 8, 9, 10, 11, 12, 13, 14, 15, 16] (va_runV (As := [.ref aS]) (rest := []) ⟨hx, hb, hml, hown, hts⟩ (kX3_measureGroups l D cI cC cS aY vY0 vY1 vY2 vY3 vY4 vY5 vY6 vY7 (if (120 : Int32) < vM2 then (120 : Int32) else vM2) vY9 vY10 aS aL vL0 vL1 vL2 vL3 aR vR0 vR1 vR2 vR3 aM vM0 vM1 vM2 H.size h1) (cwV 1 hts gX3_arrange_X3_measureGroups rfl rfl rfl (by decide +kernel) ⟨Nat.le_of_ble_eq_true rfl, Nat.le_of_ble_eq_true rfl⟩) (kpreV hK hN hP hD [0, 1, 2, 3, 4, 5, 6, 7, 8, 9, 10, 11, 12, 13, 14, 15, 16] rfl (by decide +kernel) 3 rfl rfl) rfl rfl hl.1 rfl (lv_room (Nat.le_of_ble_eq_true rfl)) dX3_arrange_18 ⟨Nat.le_refl _, Nat.le_refl _⟩) hP hD hS hA rfl (by decide +kernel) rfl [1, 2, 3, 4, 5, 6, 7, 8, 9, 10, 11, 12, 13, 14, 15, 16, 17] (by decide +kernel) rfl (fun H locs hP hD hS => ?_)
  refine lv_aload_n hx hb dX3_arrange_21 rfl (lv_at hl 0 rfl) ?_
  obtain ⟨q4, h3, h⟩ := Option.bind_eq_some_iff.mp h
  refine kcvw (ws' := (wLY cI aY vY0 vY1 vY2 vY3 q2.1 q2.2.1 q4.1 q4.2.1 (if (120 : Int32) < vM2 then (120 : Int32) else vM2) q4.2.2 q2.2.2 ++ (wSC aS aL.1 aR.1 aM.1 ++ (wBK cI aL vL0 vL1 vL2 vL3 ++ (wBK cI aR vR0 vR1 vR2 vR3 ++ wMP cI aM vM0 vM1 vM2))))) [0, 1, 2, 3, 4] (va_runV (As := []) (rest := []) ⟨hx, hb, hml, hown, hts⟩ (kX3_fillPages l D cI cC cS aY vY0 vY1 vY2 vY3 q2.1 q2.2.1 vY6 vY7 (if (120 : Int32) < vM2 then (120 : Int32) else vM2) vY9 q2.2.2 H.size h3) (cwV 0 hts gX3_arrange_X3_fillPages rfl rfl rfl (by decide +kernel) ⟨Nat.le_of_ble_eq_true rfl, Nat.le_of_ble_eq_true rfl⟩) (kpreV hK hN hP hD [0, 1, 2, 3, 4] rfl (by decide) 3 rfl rfl) rfl rfl hl.1 rfl (lv_room (Nat.le_of_ble_eq_true rfl)) dX3_arrange_22 ⟨Nat.le_refl _, Nat.le_refl _⟩) hP hD hS hA rfl (by decide) rfl [1, 2, 3, 4, 5, 0, 0, 0, 0, 0, 0, 0, 0, 0, 0, 0, 0] (by decide +kernel) rfl (fun H locs hP hD hS => ?_)
  obtain rfl := Option.some.inj h
  exact W.vret hx hb hr (fun t ht hW => ⟨⟨(), rfl, trivial, by rw [ht]; exact hP, hD⟩, hS.F ht⟩) hS.2.2 dX3_arrange_25
