-- State.bookOf, History (printed by wip/whole/gen/whist.py)
theorem kc0 : (0 : Int32).toNatClampNeg = 0 := by decide +kernel
theorem kc1 : (1 : Int32).toNatClampNeg = 1 := by decide +kernel
theorem kc2 : (2 : Int32).toNatClampNeg = 2 := by decide +kernel
theorem kc3 : (3 : Int32).toNatClampNeg = 3 := by decide +kernel
theorem kc4 : (4 : Int32).toNatClampNeg = 4 := by decide +kernel
set_option maxHeartbeats 8000000 in
set_option maxRecDepth 100000 in
theorem kX7_bookOf (l : Launch) (D : va_G) (cI cC cS : ClassId) (aS xS0 xS1 xS2 : Nat) (i1 : Int32) (sz : Nat) : kMr l yX7_bookOf wsX7_bookOf ({ frames := 0, cells := 0, slots := 0, locals := 0 } : Room) D (kTy cI cC cS) [.ref aS, .int i1] (wSC aS xS0 xS1 xS2) sz (if i1 = 0 then xS0 else xS1) (wSC aS xS0 xS1 xS2) := by
  refine Met.ofW (cc := cX7_bookOf) (maxL := 2) (ret := (some (.object "VerseColumns$Book"))) (by decide) rfl ?_
  intro p e s m args below meth c s₁ B hml hv
  obtain ⟨rfl, hsz, hP, hK, hD0, hN⟩ := hv
  have hx := B.exec
  have hb := B.bytes
  have hr := B.returns
  have hts := atoms_spec (ws := wsX7_bookOf) B.pre
  have hown : s.vm.findClass RX7 = some m.cls := findClass_of_methodNamed B.named
  have hlocks := B.notSynchronized
  subst hsz
  have hD := hD0.self (sz := s.heap.size)
  generalize hAe : va_A (wSC aS xS0 xS1 xS2) s.heap.size = A at hD ⊢
  have hA : ∀ q : Nat, s.heap.size ≤ q → A q := fun q h => by rw [← hAe]; exact Or.inr h
  have hS : va_S A s.heap s.heap [] := va_S.rf
  have huX7 : ∀ w ∈ u_ws RX7 TX7 3, w ∈ wsX7_bookOf := by decide +kernel
  have hl := lv_entry ([.ref aS, .int i1]) (n := 2) (Nat.le_of_ble_eq_true rfl)
  rw [lg_entry_eq]
  generalize (lg_sl ([.ref aS, .int i1]) ++ List.replicate (2 - (lg_sl ([.ref aS, .int i1])).length) Slot.unset).toArray = ls at hl ⊢
  have hl : lv_has ls 2 [(0, .ref aS), (1, .int i1)] := hl
  refine lv_iload_n hx hb dX7_bookOf_0 rfl (lv_at hl 1 rfl) ?_
  refine lv_if_ne (tgt := 11) hx hb dX7_bookOf_1 (by decide) (fun g => ?_) (fun g => ?_)
  · refine lv_aload_n hx hb dX7_bookOf_11 rfl (lv_at hl 0 rfl) ?_
    refine va_get (D := D) (ci := 7) (v := .ref xS1) (C := RX7) (T := TX7) (N := 3) hx hb hts huX7 hown hK hP 0 rfl rfl 1 (by decide) (hts (.fieldLink RX7 18 "VerseColumns$State" "right" "LVerseColumns$Book;") (by decide +kernel)) (fun _ h9 => h9) rfl dX7_bookOf_12 ?_
    exact W.aret (v := .ref xS1) hx hb hr (Or.inl ⟨_, rfl⟩) (Or.inr ⟨_, rfl⟩) (fun t ht hW => ⟨⟨(), xS1, rfl, trivial, (if_neg g).symm, by rw [ht]; exact hP, hD⟩, hS.F ht⟩) hS.2.2 dX7_bookOf_15
  · refine lv_aload_n hx hb dX7_bookOf_4 rfl (lv_at hl 0 rfl) ?_
    refine va_get (D := D) (ci := 7) (v := .ref xS0) (C := RX7) (T := TX7) (N := 3) hx hb hts huX7 hown hK hP 0 rfl rfl 0 (by decide) (hts (.fieldLink RX7 12 "VerseColumns$State" "left" "LVerseColumns$Book;") (by decide +kernel)) (fun _ h9 => h9) rfl dX7_bookOf_5 ?_
    refine lv_goto (tgt := 15) hx hb dX7_bookOf_8 (by decide) ?_
    exact W.aret (v := .ref xS0) hx hb hr (Or.inl ⟨_, rfl⟩) (Or.inr ⟨_, rfl⟩) (fun t ht hW => ⟨⟨(), xS0, rfl, trivial, (if_pos g).symm, by rw [ht]; exact hP, hD⟩, hS.F ht⟩) hS.2.2 dX7_bookOf_15
