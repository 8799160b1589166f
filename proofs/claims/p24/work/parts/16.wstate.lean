-- walks: state (printed by wip/whole/gen)
set_option maxHeartbeats 8000000 in
set_option maxRecDepth 100000 in
theorem kX7_copyFrom (l : Launch) (D : va_G) (cI cC cS : ClassId) (aS : Nat) (aL : Nat × Nat × Nat × Nat) (vL0 : (Nat → Int32)) (vL1 : (Nat → Int32)) (vL2 : (Nat → Int32)) (vL3 : Int32) (aR : Nat × Nat × Nat × Nat) (vR0 : (Nat → Int32)) (vR1 : (Nat → Int32)) (vR2 : (Nat → Int32)) (vR3 : Int32) (aM : Nat × Nat × Nat) (vM0 : (Nat → Int32)) (vM1 : (Nat → Int32)) (vM2 : Int32) (aZ : Nat) (aP : Nat × Nat × Nat × Nat) (vP0 : (Nat → Int32)) (vP1 : (Nat → Int32)) (vP2 : (Nat → Int32)) (vP3 : Int32) (aQ : Nat × Nat × Nat × Nat) (vQ0 : (Nat → Int32)) (vQ1 : (Nat → Int32)) (vQ2 : (Nat → Int32)) (vQ3 : Int32) (aN : Nat × Nat × Nat) (vN0 : (Nat → Int32)) (vN1 : (Nat → Int32)) (vN2 : Int32) (sz : Nat) {q : (Nat → Int32) × (Nat → Int32) × (Nat → Int32) × Int32 × (Nat → Int32) × (Nat → Int32) × (Nat → Int32) × Int32 × (Nat → Int32) × (Nat → Int32) × Int32} (h : pX7_copyFrom vP0 vP1 vP2 vP3 vQ0 vQ1 vQ2 vQ3 vN0 vN1 vN2 = some q) : kMv l yX7_copyFrom wsX7_copyFrom ({ frames := 3, cells := 0, slots := 0, locals := 82 } : Room) D (kTy cI cC cS) [.ref aS, .ref aZ] (wSC aS aL.1 aR.1 aM.1 ++ (wBK cI aL vL0 vL1 vL2 vL3 ++ (wBK cI aR vR0 vR1 vR2 vR3 ++ (wMP cI aM vM0 vM1 vM2 ++ (wSC aZ aP.1 aQ.1 aN.1 ++ (wBK cI aP vP0 vP1 vP2 vP3 ++ (wBK cI aQ vQ0 vQ1 vQ2 vQ3 ++ wMP cI aN vN0 vN1 vN2))))))) sz (wSC aS aL.1 aR.1 aM.1 ++ (wBK cI aL q.1 q.2.1 q.2.2.1 q.2.2.2.1 ++ (wBK cI aR q.2.2.2.2.1 q.2.2.2.2.2.1 q.2.2.2.2.2.2.1 q.2.2.2.2.2.2.2.1 ++ (wMP cI aM q.2.2.2.2.2.2.2.2.1 q.2.2.2.2.2.2.2.2.2.1 q.2.2.2.2.2.2.2.2.2.2 ++ (wSC aZ aP.1 aQ.1 aN.1 ++ (wBK cI aP vP0 vP1 vP2 vP3 ++ (wBK cI aQ vQ0 vQ1 vQ2 vQ3 ++ wMP cI aN vN0 vN1 vN2))))))) := by
  refine Met.ofW (cc := cX7_copyFrom) (maxL := 2) (ret := none) (by decide) rfl ?_
  intro p e s m args below meth c s₁ B hml hv
  obtain ⟨rfl, hsz, hP, hK, hD0, hN⟩ := hv
  have hx := B.exec
  have hb := B.bytes
  have hr := B.returns
  have hts := atoms_spec (ws := wsX7_copyFrom) B.pre
  have hown : s.vm.findClass RX7 = some m.cls := findClass_of_methodNamed B.named
  have hlocks := B.notSynchronized
  subst hsz
  have hD := hD0.self (sz := s.heap.size)
  generalize hAe : va_A (wSC aS aL.1 aR.1 aM.1 ++ (wBK cI aL vL0 vL1 vL2 vL3 ++ (wBK cI aR vR0 vR1 vR2 vR3 ++ (wMP cI aM vM0 vM1 vM2 ++ (wSC aZ aP.1 aQ.1 aN.1 ++ (wBK cI aP vP0 vP1 vP2 vP3 ++ (wBK cI aQ vQ0 vQ1 vQ2 vQ3 ++ wMP cI aN vN0 vN1 vN2))))))) s.heap.size = A at hD ⊢
  have hA : ∀ q : Nat, s.heap.size ≤ q → A q := fun q h => by rw [← hAe]; exact Or.inr h
  have hS : va_S A s.heap s.heap [] := va_S.rf
  have huX7 : ∀ w ∈ u_ws RX7 TX7 3, w ∈ wsX7_copyFrom := by decide +kernel
  have hl := lv_entry ([.ref aS, .ref aZ]) (n := 2) (Nat.le_of_ble_eq_true rfl)
  rw [lg_entry_eq]
  generalize (lg_sl ([.ref aS, .ref aZ]) ++ List.replicate (2 - (lg_sl ([.ref aS, .ref aZ])).length) Slot.unset).toArray = ls at hl ⊢
  have hl : lv_has ls 2 [(0, .ref aS), (1, .ref aZ)] := hl
  unfold pX7_copyFrom at h
  refine lv_aload_n hx hb dX7_copyFrom_0 rfl (lv_at hl 0 rfl) ?_
  refine va_get (D := D) (ci := 7) (v := .ref aL.1) (C := RX7) (T := TX7) (N := 3) hx hb hts huX7 hown hK hP 0 rfl rfl 0 (by decide) (hts (.fieldLink RX7 12 "VerseColumns$State" "left" "LVerseColumns$Book;") (by decide +kernel)) (fun _ h9 => h9) rfl dX7_copyFrom_1 ?_
  refine lv_aload_n hx hb dX7_copyFrom_4 rfl (lv_at hl 1 rfl) ?_
  refine va_get (D := D) (ci := 7) (v := .ref aP.1) (C := RX7) (T := TX7) (N := 3) hx hb hts huX7 hown hK hP 12 rfl rfl 0 (by decide) (hts (.fieldLink RX7 12 "VerseColumns$State" "left" "LVerseColumns$Book;") (by decide +kernel)) (fun _ h9 => h9) rfl dX7_copyFrom_5 ?_
  obtain ⟨q2, h1, h⟩ := Option.bind_eq_some_iff.mp h
  refine kcvw (ws' := (wSC aS aL.1 aR.1 aM.1 ++ (wBK cI aL q2.1 q2.2.1 q2.2.2.1 q2.2.2.2 ++ (wBK cI aR vR0 vR1 vR2 vR3 ++ (wMP cI aM vM0 vM1 vM2 ++ (wSC aZ aP.1 aQ.1 aN.1 ++ (wBK cI aP vP0 vP1 vP2 vP3 ++ (wBK cI aQ vQ0 vQ1 vQ2 vQ3 ++ wMP cI aN vN0 vN1 vN2)))))))) [1, 2, 3, 4, 13, 14, 15, 16] (va_runV (As := [.ref aP.1]) (rest := []) ⟨hx, hb, hml, hown, hts⟩ (kX0_copyFrom l D cI cC cS aL vL0 vL1 vL2 vL3 aP vP0 vP1 vP2 vP3 s.heap.size h1) (cwV 1 hts gX7_copyFrom_X0_copyFrom rfl rfl rfl (by decide +kernel) ⟨Nat.le_of_ble_eq_true rfl, Nat.le_of_ble_eq_true rfl⟩) (kpreV hK hN hP hD [1, 2, 3, 4, 13, 14, 15, 16] rfl (by decide) 0 rfl rfl) rfl rfl hl.1 rfl (lv_room (Nat.le_of_ble_eq_true rfl)) dX7_copyFrom_8 ⟨Nat.le_refl _, Nat.le_refl _⟩) hP hD hS hA rfl (by decide) rfl [0, 1, 2, 3, 4, 0, 0, 0, 0, 0, 0, 0, 0, 5, 6, 7, 8, 0, 0, 0, 0, 0, 0, 0] (by decide +kernel) rfl (fun H locs hP hD hS => ?_)
  refine lv_aload_n hx hb dX7_copyFrom_11 rfl (lv_at hl 0 rfl) ?_
  refine va_get (D := D) (ci := 7) (v := .ref aR.1) (C := RX7) (T := TX7) (N := 3) hx hb hts huX7 hown hK hP 0 rfl rfl 1 (by decide) (hts (.fieldLink RX7 18 "VerseColumns$State" "right" "LVerseColumns$Book;") (by decide +kernel)) (fun _ h9 => h9) rfl dX7_copyFrom_12 ?_
  refine lv_aload_n hx hb dX7_copyFrom_15 rfl (lv_at hl 1 rfl) ?_
  refine va_get (D := D) (ci := 7) (v := .ref aQ.1) (C := RX7) (T := TX7) (N := 3) hx hb hts huX7 hown hK hP 12 rfl rfl 1 (by decide) (hts (.fieldLink RX7 18 "VerseColumns$State" "right" "LVerseColumns$Book;") (by decide +kernel)) (fun _ h9 => h9) rfl dX7_copyFrom_16 ?_
  obtain ⟨q4, h3, h⟩ := Option.bind_eq_some_iff.mp h
  refine kcvw (ws' := (wSC aS aL.1 aR.1 aM.1 ++ (wBK cI aL q2.1 q2.2.1 q2.2.2.1 q2.2.2.2 ++ (wBK cI aR q4.1 q4.2.1 q4.2.2.1 q4.2.2.2 ++ (wMP cI aM vM0 vM1 vM2 ++ (wSC aZ aP.1 aQ.1 aN.1 ++ (wBK cI aP vP0 vP1 vP2 vP3 ++ (wBK cI aQ vQ0 vQ1 vQ2 vQ3 ++ wMP cI aN vN0 vN1 vN2)))))))) [5, 6, 7, 8, 17, 18, 19, 20] (va_runV (As := [.ref aQ.1]) (rest := []) ⟨hx, hb, hml, hown, hts⟩ (kX0_copyFrom l D cI cC cS aR vR0 vR1 vR2 vR3 aQ vQ0 vQ1 vQ2 vQ3 H.size h3) (cwV 1 hts gX7_copyFrom_X0_copyFrom rfl rfl rfl (by decide +kernel) ⟨Nat.le_of_ble_eq_true rfl, Nat.le_of_ble_eq_true rfl⟩) (kpreV hK hN hP hD [5, 6, 7, 8, 17, 18, 19, 20] rfl (by decide) 0 rfl rfl) rfl rfl hl.1 rfl (lv_room (Nat.le_of_ble_eq_true rfl)) dX7_copyFrom_19 ⟨Nat.le_refl _, Nat.le_refl _⟩) hP hD hS hA rfl (by decide) rfl [0, 0, 0, 0, 0, 1, 2, 3, 4, 0, 0, 0, 0, 0, 0, 0, 0, 5, 6, 7, 8, 0, 0, 0] (by decide +kernel) rfl (fun H locs hP hD hS => ?_)
  refine lv_aload_n hx hb dX7_copyFrom_22 rfl (lv_at hl 0 rfl) ?_
  refine va_get (D := D) (ci := 7) (v := .ref aM.1) (C := RX7) (T := TX7) (N := 3) hx hb hts huX7 hown hK hP 0 rfl rfl 2 (by decide) (hts (.fieldLink RX7 24 "VerseColumns$State" "map" "LVerseColumns$GroupMap;") (by decide +kernel)) (fun _ h9 => h9) rfl dX7_copyFrom_23 ?_
  refine lv_aload_n hx hb dX7_copyFrom_26 rfl (lv_at hl 1 rfl) ?_
  refine va_get (D := D) (ci := 7) (v := .ref aN.1) (C := RX7) (T := TX7) (N := 3) hx hb hts huX7 hown hK hP 12 rfl rfl 2 (by decide) (hts (.fieldLink RX7 24 "VerseColumns$State" "map" "LVerseColumns$GroupMap;") (by decide +kernel)) (fun _ h9 => h9) rfl dX7_copyFrom_27 ?_
  obtain ⟨q6, h5, h⟩ := Option.bind_eq_some_iff.mp h
  refine kcvw (ws' := (wSC aS aL.1 aR.1 aM.1 ++ (wBK cI aL q2.1 q2.2.1 q2.2.2.1 q2.2.2.2 ++ (wBK cI aR q4.1 q4.2.1 q4.2.2.1 q4.2.2.2 ++ (wMP cI aM q6.1 q6.2.1 q6.2.2 ++ (wSC aZ aP.1 aQ.1 aN.1 ++ (wBK cI aP vP0 vP1 vP2 vP3 ++ (wBK cI aQ vQ0 vQ1 vQ2 vQ3 ++ wMP cI aN vN0 vN1 vN2)))))))) [9, 10, 11, 21, 22, 23] (va_runV (As := [.ref aN.1]) (rest := []) ⟨hx, hb, hml, hown, hts⟩ (kX1_copyFrom l D cI cC cS aM vM0 vM1 vM2 aN vN0 vN1 vN2 H.size h5) (cwV 1 hts gX7_copyFrom_X1_copyFrom rfl rfl rfl (by decide +kernel) ⟨Nat.le_of_ble_eq_true rfl, Nat.le_of_ble_eq_true rfl⟩) (kpreV hK hN hP hD [9, 10, 11, 21, 22, 23] rfl (by decide) 1 rfl rfl) rfl rfl hl.1 rfl (lv_room (Nat.le_of_ble_eq_true rfl)) dX7_copyFrom_30 ⟨Nat.le_refl _, Nat.le_refl _⟩) hP hD hS hA rfl (by decide) rfl [0, 0, 0, 0, 0, 0, 0, 0, 0, 1, 2, 3, 0, 0, 0, 0, 0, 0, 0, 0, 0, 4, 5, 6] (by decide +kernel) rfl (fun H locs hP hD hS => ?_)
  obtain rfl := Option.some.inj h
  exact W.vret hx hb hr (fun t ht hW => ⟨⟨(), rfl, trivial, by rw [ht]; exact hP, hD⟩, hS.F ht⟩) hS.2.2 dX7_copyFrom_33
