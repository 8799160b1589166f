-- walks: vc (printed by wip/whole/gen)
set_option maxHeartbeats 8000000 in
set_option maxRecDepth 100000 in
theorem kX9_refer (l : Launch) (D : va_G) (cI cC cS : ClassId) (aV : Nat) (xV1 : Nat) (xV4 : Nat) (xV6 : Nat) (aS : Nat) (aL : Nat × Nat × Nat × Nat) (vL0 : (Nat → Int32)) (vL1 : (Nat → Int32)) (vL2 : (Nat → Int32)) (vL3 : Int32) (aR : Nat × Nat × Nat × Nat) (vR0 : (Nat → Int32)) (vR1 : (Nat → Int32)) (vR2 : (Nat → Int32)) (vR3 : Int32) (aM : Nat × Nat × Nat) (vM0 : (Nat → Int32)) (vM1 : (Nat → Int32)) (vM2 : Int32) (aT : Nat × Nat) (vT0 : (Nat → Int32)) (vT1 : Int32) (vT2 : Int32) (vT3 : Int32) (vT4 : Int32) (vT5 : Int32) (aU : Nat) (vU0 : Int32) (vU1 : Int32) (aE : Nat) (vE0 : Int32) (vE1 : Int32) (vE2 : Int32) (vE3 : Int32) (vE4 : Int32) (vE5 : Int32) (vE6 : Int32) (i1 : Int32) (i2 : Int32) (sz : Nat) {q : Int32 × Int32 × Int32 × Int32 × Int32 × Int32 × Int32 × Int32 × Int32 × Int32 × Int32 × Int32 × Int32 × Int32} (h : pX9_refer vL0 vL3 vR0 vR3 vM0 vM1 vM2 vT0 vT1 vT2 vT3 vT4 vT5 vU0 vU1 vE0 vE1 vE2 vE3 vE4 vE5 vE6 i1 i2 = some q) : kMi l yX9_refer wsX9_refer ({ frames := 6, cells := 0, slots := 0, locals := 138 } : Room) D (kTy cI cC cS) [.ref aV, .int i1, .int i2] (wVC aV aS xV1 aT.1 aU xV4 aE xV6 ++ (wSC aS aL.1 aR.1 aM.1 ++ (wBK cI aL vL0 vL1 vL2 vL3 ++ (wBK cI aR vR0 vR1 vR2 vR3 ++ (wMP cI aM vM0 vM1 vM2 ++ (wTX cC aT vT0 vT1 vT2 vT3 vT4 vT5 ++ (wRR aU vU0 vU1 ++ wRE aE vE0 vE1 vE2 vE3 vE4 vE5 vE6))))))) sz q.1 (wVC aV aS xV1 aT.1 aU xV4 aE xV6 ++ (wSC aS aL.1 aR.1 aM.1 ++ (wBK cI aL vL0 vL1 vL2 vL3 ++ (wBK cI aR vR0 vR1 vR2 vR3 ++ (wMP cI aM vM0 vM1 vM2 ++ (wTX cC aT vT0 vT1 q.2.1 q.2.2.1 q.2.2.2.1 q.2.2.2.2.1 ++ (wRR aU q.2.2.2.2.2.1 q.2.2.2.2.2.2.1 ++ wRE aE q.2.2.2.2.2.2.2.1 q.2.2.2.2.2.2.2.2.1 q.2.2.2.2.2.2.2.2.2.1 q.2.2.2.2.2.2.2.2.2.2.1 q.2.2.2.2.2.2.2.2.2.2.2.1 q.2.2.2.2.2.2.2.2.2.2.2.2.1 q.2.2.2.2.2.2.2.2.2.2.2.2.2))))))) := by
  refine Met.ofW (cc := cX9_refer) (maxL := 4) (ret := (some .int)) (by decide) rfl ?_
  intro p e s m args below meth c s₁ B hml hv
  obtain ⟨rfl, hsz, hP, hK, hD0, hN⟩ := hv
  have hx := B.exec
  have hb := B.bytes
  have hr := B.returns
  have hts := atoms_spec (ws := wsX9_refer) B.pre
  have hown : s.vm.findClass RX9 = some m.cls := findClass_of_methodNamed B.named
  have hlocks := B.notSynchronized
  subst hsz
  have hD := hD0.self (sz := s.heap.size)
  generalize hAe : va_A (wVC aV aS xV1 aT.1 aU xV4 aE xV6 ++ (wSC aS aL.1 aR.1 aM.1 ++ (wBK cI aL vL0 vL1 vL2 vL3 ++ (wBK cI aR vR0 vR1 vR2 vR3 ++ (wMP cI aM vM0 vM1 vM2 ++ (wTX cC aT vT0 vT1 vT2 vT3 vT4 vT5 ++ (wRR aU vU0 vU1 ++ wRE aE vE0 vE1 vE2 vE3 vE4 vE5 vE6))))))) s.heap.size = A at hD ⊢
  have hA : ∀ q : Nat, s.heap.size ≤ q → A q := fun q h => by rw [← hAe]; exact Or.inr h
  have hS : va_S A s.heap s.heap [] := va_S.rf
  have huX6 : ∀ w ∈ u_ws RX6 TX6 2, w ∈ wsX9_refer := by decide +kernel
  have huX7 : ∀ w ∈ u_ws RX7 TX7 3, w ∈ wsX9_refer := by decide +kernel
  have huX9 : ∀ w ∈ u_ws RX9 TX9 7, w ∈ wsX9_refer := by decide +kernel
  have hl := lv_entry ([.ref aV, .int i1, .int i2]) (n := 4) (Nat.le_of_ble_eq_true rfl)
  rw [lg_entry_eq]
  generalize (lg_sl ([.ref aV, .int i1, .int i2]) ++ List.replicate (4 - (lg_sl ([.ref aV, .int i1, .int i2])).length) Slot.unset).toArray = ls at hl ⊢
  have hl : lv_has ls 4 [(0, .ref aV), (1, .int i1), (2, .int i2)] := hl
  unfold pX9_refer at h
  refine lv_iload_n hx hb dX9_refer_0 rfl (lv_at hl 1 rfl) ?_
  obtain ⟨q2, h1, h⟩ := Option.bind_eq_some_iff.mp h
  refine kcir [] (va_runS (As := [.int i1]) (rest := []) ⟨hx, hb, hml, hown, hts⟩ (kX9_isBook l D cI cC cS i1 s.heap.size h1) (cwS 1 hts gX9_refer_X9_isBook rfl rfl rfl (by decide +kernel) ⟨Nat.le_of_ble_eq_true rfl, Nat.le_of_ble_eq_true rfl⟩) (kpre hK hN hP hD [] rfl (by decide)) rfl rfl hl.1 rfl (lv_room (Nat.le_of_ble_eq_true rfl)) dX9_refer_1 ⟨Nat.le_refl _, Nat.le_refl _⟩) hP hD hS hA rfl (fun H locs hP hS => ?_)
  refine lv_if_ne (tgt := 9) hx hb dX9_refer_4 (by decide) (fun g => ?_) (fun g => ?_)
  · rw [if_neg g] at h
    refine lv_iload_n hx hb dX9_refer_9 rfl (lv_at hl 2 rfl) ?_
    refine lv_iconst (v := (0 : Int32)) hx hb dX9_refer_10 (by decide) ?_
    refine lv_bipush (v := (6 : Int32)) hx hb dX9_refer_11 (by decide) ?_
    obtain ⟨q4, h3, h⟩ := Option.bind_eq_some_iff.mp h
    refine kcir [] (va_runS (As := [.int i2, .int (0 : Int32), .int (6 : Int32)]) (rest := []) ⟨hx, hb, hml, hown, hts⟩ (kX9_isWithin l D cI cC cS i2 (0 : Int32) (6 : Int32) H.size h3) (cwS 3 hts gX9_refer_X9_isWithin rfl rfl rfl (by decide +kernel) ⟨Nat.le_of_ble_eq_true rfl, Nat.le_of_ble_eq_true rfl⟩) (kpre hK hN hP hD [] rfl (by decide)) rfl rfl hl.1 rfl (lv_room (Nat.le_of_ble_eq_true rfl)) dX9_refer_13 ⟨Nat.le_refl _, Nat.le_refl _⟩) hP hD hS hA rfl (fun H locs hP hS => ?_)
    refine lv_if_ne (tgt := 22) hx hb dX9_refer_16 (by decide) (fun g => ?_) (fun g => ?_)
    · rw [if_neg g] at h
      refine lv_aload_n hx hb dX9_refer_22 rfl (lv_at hl 0 rfl) ?_
      refine va_get (D := D) (ci := 9) (v := .ref aU) (C := RX9) (T := TX9) (N := 7) hx hb hts huX9 hown hK hP 0 rfl rfl 3 (by decide) (hts (.fieldLink RX9 33 "VerseColumns" "referenceReader" "LVerseColumns$ReferenceReader;") (by decide +kernel)) (fun _ h9 => h9) rfl dX9_refer_23 ?_
      refine lv_aload_n hx hb dX9_refer_26 rfl (lv_at hl 0 rfl) ?_
      refine va_get (D := D) (ci := 9) (v := .ref aT.1) (C := RX9) (T := TX9) (N := 7) hx hb hts huX9 hown hK hP 0 rfl rfl 2 (by decide) (hts (.fieldLink RX9 26 "VerseColumns" "text" "LVerseColumns$Text;") (by decide +kernel)) (fun _ h9 => h9) rfl dX9_refer_27 ?_
      refine lv_aload_n hx hb dX9_refer_30 rfl (lv_at hl 0 rfl) ?_
      refine va_get (D := D) (ci := 9) (v := .ref aS) (C := RX9) (T := TX9) (N := 7) hx hb hts huX9 hown hK hP 0 rfl rfl 0 (by decide) (hts (.fieldLink RX9 12 "VerseColumns" "state" "LVerseColumns$State;") (by decide +kernel)) (fun _ h9 => h9) rfl dX9_refer_31 ?_
      refine lv_iload_n hx hb dX9_refer_34 rfl (lv_at hl 1 rfl) ?_
      refine kcrr [1] (va_runV (As := [.int i1]) (rest := [.ref aT.1, .ref aU]) ⟨hx, hb, hml, hown, hts⟩ (kX7_bookOf l D cI cC cS aS aL.1 aR.1 aM.1 i1 H.size) (cwV 1 hts gX9_refer_X7_bookOf rfl rfl rfl (by decide +kernel) ⟨Nat.le_of_ble_eq_true rfl, Nat.le_of_ble_eq_true rfl⟩) (kpreV hK hN hP hD [1] rfl (by decide) 7 rfl rfl) rfl rfl hl.1 rfl (lv_room (Nat.le_of_ble_eq_true rfl)) dX9_refer_35 ⟨Nat.le_refl _, Nat.le_refl _⟩) hP hD hS hA rfl (fun H locs hP hS => ?_)
      by_cases g : i1 = 0
      · rw [if_pos g] at h ⊢
        obtain ⟨q8, h7, h⟩ := Option.bind_eq_some_iff.mp h
        refine kciw (ws' := (wVC aV aS xV1 aT.1 aU xV4 aE xV6 ++ (wSC aS aL.1 aR.1 aM.1 ++ (wBK cI aL vL0 vL1 vL2 vL3 ++ (wBK cI aR vR0 vR1 vR2 vR3 ++ (wMP cI aM vM0 vM1 vM2 ++ (wTX cC aT vT0 vT1 q8.2.2.2.1 q8.2.2.2.2.1 q8.2.2.2.2.2.1 q8.2.2.2.2.2.2 ++ (wRR aU q8.2.1 q8.2.2.1 ++ wRE aE vE0 vE1 vE2 vE3 vE4 vE5 vE6)))))))) [15, 13, 14, 2, 3, 4, 5] (va_runV (As := [.ref aT.1, .ref aL.1]) (rest := []) ⟨hx, hb, hml, hown, hts⟩ (kX6_read l D cI cC cS aU vU0 vU1 aT vT0 vT1 vT2 vT3 vT4 vT5 aL vL0 vL1 vL2 vL3 H.size h7) (cwV 2 hts gX9_refer_X6_read rfl rfl rfl (by decide +kernel) ⟨Nat.le_of_ble_eq_true rfl, Nat.le_of_ble_eq_true rfl⟩) (kpreV hK hN hP hD [15, 13, 14, 2, 3, 4, 5] rfl (by decide) 6 rfl rfl) rfl rfl hl.1 rfl (lv_room (Nat.le_of_ble_eq_true rfl)) dX9_refer_38 ⟨Nat.le_refl _, Nat.le_refl _⟩) hP hD hS hA rfl (by decide) rfl [0, 0, 4, 5, 6, 7, 0, 0, 0, 0, 0, 0, 0, 2, 3, 1, 0] (by decide +kernel) rfl (fun H locs hP hD hS => ?_)
        refine lv_istore_n (lv' := [(3, .int q8.1), (0, .ref aV), (1, .int i1), (2, .int i2)]) hx hb dX9_refer_41 rfl hl (by decide) rfl (fun ls hl => ?_)
        refine lv_iload_n hx hb dX9_refer_42 rfl (lv_at hl 0 rfl) ?_
        refine lv_iconst (v := (-1 : Int32)) hx hb dX9_refer_43 (by decide) ?_
        refine lv_icmp_eq (tgt := 52) hx hb dX9_refer_44 (by decide) (fun g => ?_) (fun g => ?_)
        · rw [if_pos g] at h
          refine lv_aload_n hx hb dX9_refer_52 rfl (lv_at hl 1 rfl) ?_
          refine va_get (D := D) (ci := 9) (v := .ref aE) (C := RX9) (T := TX9) (N := 7) hx hb hts huX9 hown hK hP 0 rfl rfl 5 (by decide) (hts (.fieldLink RX9 47 "VerseColumns" "reach" "LVerseColumns$Reach;") (by decide +kernel)) (fun _ h9 => h9) rfl dX9_refer_53 ?_
          refine lv_aload_n hx hb dX9_refer_56 rfl (lv_at hl 1 rfl) ?_
          refine va_get (D := D) (ci := 9) (v := .ref aS) (C := RX9) (T := TX9) (N := 7) hx hb hts huX9 hown hK hP 0 rfl rfl 0 (by decide) (hts (.fieldLink RX9 12 "VerseColumns" "state" "LVerseColumns$State;") (by decide +kernel)) (fun _ h9 => h9) rfl dX9_refer_57 ?_
          refine va_getN (D := D) (ci := 7) (v := .ref aM.1) (C := RX7) (T := TX7) (N := 3) hx hb hts huX7 hown hK hP 1 rfl rfl 2 (by decide) (hN.f 11 rfl) (fun _ h9 => h9) rfl dX9_refer_60 ?_
          refine lv_iload_n hx hb dX9_refer_63 rfl (lv_at hl 2 rfl) ?_
          refine lv_aload_n hx hb dX9_refer_64 rfl (lv_at hl 1 rfl) ?_
          refine va_get (D := D) (ci := 9) (v := .ref aU) (C := RX9) (T := TX9) (N := 7) hx hb hts huX9 hown hK hP 0 rfl rfl 3 (by decide) (hts (.fieldLink RX9 33 "VerseColumns" "referenceReader" "LVerseColumns$ReferenceReader;") (by decide +kernel)) (fun _ h9 => h9) rfl dX9_refer_65 ?_
          refine va_getN (D := D) (ci := 6) (v := .int q8.2.1) (C := RX6) (T := TX6) (N := 2) hx hb hts huX6 hown hK hP 15 rfl rfl 0 (by decide) (hN.f 21 rfl) (fun _ h9 => h9) rfl dX9_refer_68 ?_
          refine lv_aload_n hx hb dX9_refer_71 rfl (lv_at hl 1 rfl) ?_
          refine va_get (D := D) (ci := 9) (v := .ref aU) (C := RX9) (T := TX9) (N := 7) hx hb hts huX9 hown hK hP 0 rfl rfl 3 (by decide) (hts (.fieldLink RX9 33 "VerseColumns" "referenceReader" "LVerseColumns$ReferenceReader;") (by decide +kernel)) (fun _ h9 => h9) rfl dX9_refer_72 ?_
          refine va_getN (D := D) (ci := 6) (v := .int q8.2.2.1) (C := RX6) (T := TX6) (N := 2) hx hb hts huX6 hown hK hP 15 rfl rfl 1 (by decide) (hN.f 22 rfl) (fun _ h9 => h9) rfl dX9_refer_75 ?_
          obtain ⟨q10, h9, h⟩ := Option.bind_eq_some_iff.mp h
          refine kcvw (ws' := (wVC aV aS xV1 aT.1 aU xV4 aE xV6 ++ (wSC aS aL.1 aR.1 aM.1 ++ (wBK cI aL vL0 vL1 vL2 vL3 ++ (wBK cI aR vR0 vR1 vR2 vR3 ++ (wMP cI aM vM0 vM1 vM2 ++ (wTX cC aT vT0 vT1 q8.2.2.2.1 q8.2.2.2.2.1 q8.2.2.2.2.2.1 q8.2.2.2.2.2.2 ++ (wRR aU q8.2.1 q8.2.2.1 ++ wRE aE q10.1 q10.2.1 q10.2.2.1 q10.2.2.2.1 q10.2.2.2.2.1 q10.2.2.2.2.2.1 q10.2.2.2.2.2.2)))))))) [16, 10, 11, 12] (va_runV (As := [.ref aM.1, .int i1, .int q8.2.1, .int q8.2.2.1]) (rest := []) ⟨hx, hb, hml, hown, hts⟩ (kX5_measure l D cI cC cS aE vE0 vE1 vE2 vE3 vE4 vE5 vE6 aM vM0 vM1 vM2 i1 q8.2.1 q8.2.2.1 H.size h9) (cwV 4 hts gX9_refer_X5_measure rfl rfl rfl (by decide +kernel) ⟨Nat.le_of_ble_eq_true rfl, Nat.le_of_ble_eq_true rfl⟩) (kpreV hK hN hP hD [16, 10, 11, 12] rfl (by decide) 5 rfl rfl) rfl rfl hl.1 rfl (lv_room (Nat.le_of_ble_eq_true rfl)) dX9_refer_78 ⟨Nat.le_refl _, Nat.le_refl _⟩) hP hD hS hA rfl (by decide) rfl [0, 0, 0, 0, 0, 0, 0, 0, 0, 0, 2, 3, 4, 0, 0, 0, 1] (by decide +kernel) rfl (fun H locs hP hD hS => ?_)
          refine lv_aload_n hx hb dX9_refer_81 rfl (lv_at hl 1 rfl) ?_
          refine va_get (D := D) (ci := 9) (v := .ref aE) (C := RX9) (T := TX9) (N := 7) hx hb hts huX9 hown hK hP 0 rfl rfl 5 (by decide) (hts (.fieldLink RX9 47 "VerseColumns" "reach" "LVerseColumns$Reach;") (by decide +kernel)) (fun _ h9 => h9) rfl dX9_refer_82 ?_
          refine lv_iload_n hx hb dX9_refer_85 rfl (lv_at hl 3 rfl) ?_
          obtain ⟨q12, h11, h⟩ := Option.bind_eq_some_iff.mp h
          refine kcir [16] (va_runV (As := [.int i2]) (rest := []) ⟨hx, hb, hml, hown, hts⟩ (kX5_property l D cI cC cS aE q10.1 q10.2.1 q10.2.2.1 q10.2.2.2.1 q10.2.2.2.2.1 q10.2.2.2.2.2.1 q10.2.2.2.2.2.2 i2 H.size h11) (cwV 1 hts gX9_refer_X5_property rfl rfl rfl (by decide +kernel) ⟨Nat.le_of_ble_eq_true rfl, Nat.le_of_ble_eq_true rfl⟩) (kpreV hK hN hP hD [16] rfl (by decide) 5 rfl rfl) rfl rfl hl.1 rfl (lv_room (Nat.le_of_ble_eq_true rfl)) dX9_refer_86 ⟨Nat.le_refl _, Nat.le_refl _⟩) hP hD hS hA rfl (fun H locs hP hS => ?_)
          obtain rfl := Option.some.inj h
          exact W.iret (v := q12) hx hb hr (fun t ht hW => ⟨⟨_, (), rfl, rfl, by rw [ht]; exact hP, hD⟩, hS.F ht⟩) hS.2.2 dX9_refer_89
        · rw [if_neg g] at h
          refine lv_bipush (v := (-100 : Int32)) hx hb dX9_refer_47 (by decide) ?_
          refine lv_iload_n hx hb dX9_refer_49 rfl (lv_at hl 0 rfl) ?_
          refine lv_isub hx hb dX9_refer_50 ?_
          obtain rfl := Option.some.inj h
          exact W.iret (v := ((-100 : Int32) - q8.1)) hx hb hr (fun t ht hW => ⟨⟨_, (), rfl, rfl, by rw [ht]; exact hP, hD⟩, hS.F ht⟩) hS.2.2 dX9_refer_51
      · rw [if_neg g] at h ⊢
        obtain ⟨q14, h13, h⟩ := Option.bind_eq_some_iff.mp h
        refine kciw (ws' := (wVC aV aS xV1 aT.1 aU xV4 aE xV6 ++ (wSC aS aL.1 aR.1 aM.1 ++ (wBK cI aL vL0 vL1 vL2 vL3 ++ (wBK cI aR vR0 vR1 vR2 vR3 ++ (wMP cI aM vM0 vM1 vM2 ++ (wTX cC aT vT0 vT1 q14.2.2.2.1 q14.2.2.2.2.1 q14.2.2.2.2.2.1 q14.2.2.2.2.2.2 ++ (wRR aU q14.2.1 q14.2.2.1 ++ wRE aE vE0 vE1 vE2 vE3 vE4 vE5 vE6)))))))) [15, 13, 14, 6, 7, 8, 9] (va_runV (As := [.ref aT.1, .ref aR.1]) (rest := []) ⟨hx, hb, hml, hown, hts⟩ (kX6_read l D cI cC cS aU vU0 vU1 aT vT0 vT1 vT2 vT3 vT4 vT5 aR vR0 vR1 vR2 vR3 H.size h13) (cwV 2 hts gX9_refer_X6_read rfl rfl rfl (by decide +kernel) ⟨Nat.le_of_ble_eq_true rfl, Nat.le_of_ble_eq_true rfl⟩) (kpreV hK hN hP hD [15, 13, 14, 6, 7, 8, 9] rfl (by decide) 6 rfl rfl) rfl rfl hl.1 rfl (lv_room (Nat.le_of_ble_eq_true rfl)) dX9_refer_38 ⟨Nat.le_refl _, Nat.le_refl _⟩) hP hD hS hA rfl (by decide) rfl [0, 0, 0, 0, 0, 0, 4, 5, 6, 7, 0, 0, 0, 2, 3, 1, 0] (by decide +kernel) rfl (fun H locs hP hD hS => ?_)
        refine lv_istore_n (lv' := [(3, .int q14.1), (0, .ref aV), (1, .int i1), (2, .int i2)]) hx hb dX9_refer_41 rfl hl (by decide) rfl (fun ls hl => ?_)
        refine lv_iload_n hx hb dX9_refer_42 rfl (lv_at hl 0 rfl) ?_
        refine lv_iconst (v := (-1 : Int32)) hx hb dX9_refer_43 (by decide) ?_
        refine lv_icmp_eq (tgt := 52) hx hb dX9_refer_44 (by decide) (fun g => ?_) (fun g => ?_)
        · rw [if_pos g] at h
          refine lv_aload_n hx hb dX9_refer_52 rfl (lv_at hl 1 rfl) ?_
          refine va_get (D := D) (ci := 9) (v := .ref aE) (C := RX9) (T := TX9) (N := 7) hx hb hts huX9 hown hK hP 0 rfl rfl 5 (by decide) (hts (.fieldLink RX9 47 "VerseColumns" "reach" "LVerseColumns$Reach;") (by decide +kernel)) (fun _ h9 => h9) rfl dX9_refer_53 ?_
          refine lv_aload_n hx hb dX9_refer_56 rfl (lv_at hl 1 rfl) ?_
          refine va_get (D := D) (ci := 9) (v := .ref aS) (C := RX9) (T := TX9) (N := 7) hx hb hts huX9 hown hK hP 0 rfl rfl 0 (by decide) (hts (.fieldLink RX9 12 "VerseColumns" "state" "LVerseColumns$State;") (by decide +kernel)) (fun _ h9 => h9) rfl dX9_refer_57 ?_
          refine va_getN (D := D) (ci := 7) (v := .ref aM.1) (C := RX7) (T := TX7) (N := 3) hx hb hts huX7 hown hK hP 1 rfl rfl 2 (by decide) (hN.f 11 rfl) (fun _ h9 => h9) rfl dX9_refer_60 ?_
          refine lv_iload_n hx hb dX9_refer_63 rfl (lv_at hl 2 rfl) ?_
          refine lv_aload_n hx hb dX9_refer_64 rfl (lv_at hl 1 rfl) ?_
          refine va_get (D := D) (ci := 9) (v := .ref aU) (C := RX9) (T := TX9) (N := 7) hx hb hts huX9 hown hK hP 0 rfl rfl 3 (by decide) (hts (.fieldLink RX9 33 "VerseColumns" "referenceReader" "LVerseColumns$ReferenceReader;") (by decide +kernel)) (fun _ h9 => h9) rfl dX9_refer_65 ?_
          refine va_getN (D := D) (ci := 6) (v := .int q14.2.1) (C := RX6) (T := TX6) (N := 2) hx hb hts huX6 hown hK hP 15 rfl rfl 0 (by decide) (hN.f 21 rfl) (fun _ h9 => h9) rfl dX9_refer_68 ?_
          refine lv_aload_n hx hb dX9_refer_71 rfl (lv_at hl 1 rfl) ?_
          refine va_get (D := D) (ci := 9) (v := .ref aU) (C := RX9) (T := TX9) (N := 7) hx hb hts huX9 hown hK hP 0 rfl rfl 3 (by decide) (hts (.fieldLink RX9 33 "VerseColumns" "referenceReader" "LVerseColumns$ReferenceReader;") (by decide +kernel)) (fun _ h9 => h9) rfl dX9_refer_72 ?_
          refine va_getN (D := D) (ci := 6) (v := .int q14.2.2.1) (C := RX6) (T := TX6) (N := 2) hx hb hts huX6 hown hK hP 15 rfl rfl 1 (by decide) (hN.f 22 rfl) (fun _ h9 => h9) rfl dX9_refer_75 ?_
          obtain ⟨q16, h15, h⟩ := Option.bind_eq_some_iff.mp h
          refine kcvw (ws' := (wVC aV aS xV1 aT.1 aU xV4 aE xV6 ++ (wSC aS aL.1 aR.1 aM.1 ++ (wBK cI aL vL0 vL1 vL2 vL3 ++ (wBK cI aR vR0 vR1 vR2 vR3 ++ (wMP cI aM vM0 vM1 vM2 ++ (wTX cC aT vT0 vT1 q14.2.2.2.1 q14.2.2.2.2.1 q14.2.2.2.2.2.1 q14.2.2.2.2.2.2 ++ (wRR aU q14.2.1 q14.2.2.1 ++ wRE aE q16.1 q16.2.1 q16.2.2.1 q16.2.2.2.1 q16.2.2.2.2.1 q16.2.2.2.2.2.1 q16.2.2.2.2.2.2)))))))) [16, 10, 11, 12] (va_runV (As := [.ref aM.1, .int i1, .int q14.2.1, .int q14.2.2.1]) (rest := []) ⟨hx, hb, hml, hown, hts⟩ (kX5_measure l D cI cC cS aE vE0 vE1 vE2 vE3 vE4 vE5 vE6 aM vM0 vM1 vM2 i1 q14.2.1 q14.2.2.1 H.size h15) (cwV 4 hts gX9_refer_X5_measure rfl rfl rfl (by decide +kernel) ⟨Nat.le_of_ble_eq_true rfl, Nat.le_of_ble_eq_true rfl⟩) (kpreV hK hN hP hD [16, 10, 11, 12] rfl (by decide) 5 rfl rfl) rfl rfl hl.1 rfl (lv_room (Nat.le_of_ble_eq_true rfl)) dX9_refer_78 ⟨Nat.le_refl _, Nat.le_refl _⟩) hP hD hS hA rfl (by decide) rfl [0, 0, 0, 0, 0, 0, 0, 0, 0, 0, 2, 3, 4, 0, 0, 0, 1] (by decide +kernel) rfl (fun H locs hP hD hS => ?_)
          refine lv_aload_n hx hb dX9_refer_81 rfl (lv_at hl 1 rfl) ?_
          refine va_get (D := D) (ci := 9) (v := .ref aE) (C := RX9) (T := TX9) (N := 7) hx hb hts huX9 hown hK hP 0 rfl rfl 5 (by decide) (hts (.fieldLink RX9 47 "VerseColumns" "reach" "LVerseColumns$Reach;") (by decide +kernel)) (fun _ h9 => h9) rfl dX9_refer_82 ?_
          refine lv_iload_n hx hb dX9_refer_85 rfl (lv_at hl 3 rfl) ?_
          obtain ⟨q18, h17, h⟩ := Option.bind_eq_some_iff.mp h
          refine kcir [16] (va_runV (As := [.int i2]) (rest := []) ⟨hx, hb, hml, hown, hts⟩ (kX5_property l D cI cC cS aE q16.1 q16.2.1 q16.2.2.1 q16.2.2.2.1 q16.2.2.2.2.1 q16.2.2.2.2.2.1 q16.2.2.2.2.2.2 i2 H.size h17) (cwV 1 hts gX9_refer_X5_property rfl rfl rfl (by decide +kernel) ⟨Nat.le_of_ble_eq_true rfl, Nat.le_of_ble_eq_true rfl⟩) (kpreV hK hN hP hD [16] rfl (by decide) 5 rfl rfl) rfl rfl hl.1 rfl (lv_room (Nat.le_of_ble_eq_true rfl)) dX9_refer_86 ⟨Nat.le_refl _, Nat.le_refl _⟩) hP hD hS hA rfl (fun H locs hP hS => ?_)
          obtain rfl := Option.some.inj h
          exact W.iret (v := q18) hx hb hr (fun t ht hW => ⟨⟨_, (), rfl, rfl, by rw [ht]; exact hP, hD⟩, hS.F ht⟩) hS.2.2 dX9_refer_89
        · rw [if_neg g] at h
          refine lv_bipush (v := (-100 : Int32)) hx hb dX9_refer_47 (by decide) ?_
          refine lv_iload_n hx hb dX9_refer_49 rfl (lv_at hl 0 rfl) ?_
          refine lv_isub hx hb dX9_refer_50 ?_
          obtain rfl := Option.some.inj h
          exact W.iret (v := ((-100 : Int32) - q14.1)) hx hb hr (fun t ht hW => ⟨⟨_, (), rfl, rfl, by rw [ht]; exact hP, hD⟩, hS.F ht⟩) hS.2.2 dX9_refer_51
    · rw [if_pos g] at h
      refine lv_bipush (v := (-2 : Int32)) hx hb dX9_refer_19 (by decide) ?_
      obtain rfl := Option.some.inj h
      exact W.iret (v := (-2 : Int32)) hx hb hr (fun t ht hW => ⟨⟨_, (), rfl, rfl, by rw [ht]; exact hP, hD⟩, hS.F ht⟩) hS.2.2 dX9_refer_21
  · rw [if_pos g] at h
    refine lv_iconst (v := (-1 : Int32)) hx hb dX9_refer_7 (by decide) ?_
    obtain rfl := Option.some.inj h
    exact W.iret (v := (-1 : Int32)) hx hb hr (fun t ht hW => ⟨⟨_, (), rfl, rfl, by rw [ht]; exact hP, hD⟩, hS.F ht⟩) hS.2.2 dX9_refer_8
set_option maxHeartbeats 8000000 in
set_option maxRecDepth 100000 in
theorem kX9_beside (l : Launch) (D : va_G) (cI cC cS : ClassId) (aV : Nat) (xV1 : Nat) (xV2 : Nat) (xV3 : Nat) (xV4 : Nat) (xV5 : Nat) (xV6 : Nat) (aS : Nat) (aL : Nat × Nat × Nat × Nat) (vL0 : (Nat → Int32)) (vL1 : (Nat → Int32)) (vL2 : (Nat → Int32)) (vL3 : Int32) (aR : Nat × Nat × Nat × Nat) (vR0 : (Nat → Int32)) (vR1 : (Nat → Int32)) (vR2 : (Nat → Int32)) (vR3 : Int32) (aM : Nat × Nat × Nat) (vM0 : (Nat → Int32)) (vM1 : (Nat → Int32)) (vM2 : Int32) (i1 : Int32) (i2 : Int32) (i3 : Int32) (sz : Nat) {q : Int32} (h : pX9_beside vL3 vR3 vM0 vM1 vM2 i1 i2 i3 = some q) : kMi l yX9_beside wsX9_beside ({ frames := 3, cells := 0, slots := 0, locals := 67 } : Room) D (kTy cI cC cS) [.ref aV, .int i1, .int i2, .int i3] (wVC aV aS xV1 xV2 xV3 xV4 xV5 xV6 ++ (wSC aS aL.1 aR.1 aM.1 ++ (wBK cI aL vL0 vL1 vL2 vL3 ++ (wBK cI aR vR0 vR1 vR2 vR3 ++ wMP cI aM vM0 vM1 vM2)))) sz q (wVC aV aS xV1 xV2 xV3 xV4 xV5 xV6 ++ (wSC aS aL.1 aR.1 aM.1 ++ (wBK cI aL vL0 vL1 vL2 vL3 ++ (wBK cI aR vR0 vR1 vR2 vR3 ++ wMP cI aM vM0 vM1 vM2)))) := by
  refine Met.ofW (cc := cX9_beside) (maxL := 8) (ret := (some .int)) (by decide) rfl ?_
  intro p e s m args below meth c s₁ B hml hv
  obtain ⟨rfl, hsz, hP, hK, hD0, hN⟩ := hv
  have hx := B.exec
  have hb := B.bytes
  have hr := B.returns
  have hts := atoms_spec (ws := wsX9_beside) B.pre
  have hown : s.vm.findClass RX9 = some m.cls := findClass_of_methodNamed B.named
  have hlocks := B.notSynchronized
  subst hsz
  have hD := hD0.self (sz := s.heap.size)
  generalize hAe : va_A (wVC aV aS xV1 xV2 xV3 xV4 xV5 xV6 ++ (wSC aS aL.1 aR.1 aM.1 ++ (wBK cI aL vL0 vL1 vL2 vL3 ++ (wBK cI aR vR0 vR1 vR2 vR3 ++ wMP cI aM vM0 vM1 vM2)))) s.heap.size = A at hD ⊢
  have hA : ∀ q : Nat, s.heap.size ≤ q → A q := fun q h => by rw [← hAe]; exact Or.inr h
  have hS : va_S A s.heap s.heap [] := va_S.rf
  have huX7 : ∀ w ∈ u_ws RX7 TX7 3, w ∈ wsX9_beside := by decide +kernel
  have huX9 : ∀ w ∈ u_ws RX9 TX9 7, w ∈ wsX9_beside := by decide +kernel
  have hl := lv_entry ([.ref aV, .int i1, .int i2, .int i3]) (n := 8) (Nat.le_of_ble_eq_true rfl)
  rw [lg_entry_eq]
  generalize (lg_sl ([.ref aV, .int i1, .int i2, .int i3]) ++ List.replicate (8 - (lg_sl ([.ref aV, .int i1, .int i2, .int i3])).length) Slot.unset).toArray = ls at hl ⊢
  have hl : lv_has ls 8 [(0, .ref aV), (1, .int i1), (2, .int i2), (3, .int i3)] := hl
  unfold pX9_beside at h
  refine lv_aload_n hx hb dX9_beside_0 rfl (lv_at hl 0 rfl) ?_
  refine lv_iload_n hx hb dX9_beside_1 rfl (lv_at hl 1 rfl) ?_
  refine lv_iload_n hx hb dX9_beside_2 rfl (lv_at hl 2 rfl) ?_
  obtain ⟨q2, h1, h⟩ := Option.bind_eq_some_iff.mp h
  refine kcir [0, 1, 2, 3, 4, 5, 6, 7, 8, 9] (va_runV (As := [.int i1, .int i2]) (rest := []) ⟨hx, hb, hml, hown, hts⟩ (kX9_isVerse l D cI cC cS aV xV1 xV2 xV3 xV4 xV5 xV6 aS aM.1 aL vL0 vL1 vL2 vL3 aR vR0 vR1 vR2 vR3 i1 i2 s.heap.size h1) (cwV 2 hts gX9_beside_X9_isVerse rfl rfl rfl (by decide +kernel) ⟨Nat.le_of_ble_eq_true rfl, Nat.le_of_ble_eq_true rfl⟩) (kpreV hK hN hP hD [0, 1, 2, 3, 4, 5, 6, 7, 8, 9] rfl (by decide) 9 rfl rfl) rfl rfl hl.1 rfl (lv_room (Nat.le_of_ble_eq_true rfl)) dX9_beside_3 ⟨Nat.le_refl _, Nat.le_refl _⟩) hP hD hS hA rfl (fun H locs hP hS => ?_)
  refine lv_if_ne (tgt := 11) hx hb dX9_beside_6 (by decide) (fun g => ?_) (fun g => ?_)
  · rw [if_neg g] at h
    refine lv_iload_n hx hb dX9_beside_11 rfl (lv_at hl 3 rfl) ?_
    refine lv_iconst (v := (0 : Int32)) hx hb dX9_beside_12 (by decide) ?_
    refine lv_iconst (v := (2 : Int32)) hx hb dX9_beside_13 (by decide) ?_
    obtain ⟨q4, h3, h⟩ := Option.bind_eq_some_iff.mp h
    refine kcir [] (va_runS (As := [.int i3, .int (0 : Int32), .int (2 : Int32)]) (rest := []) ⟨hx, hb, hml, hown, hts⟩ (kX9_isWithin l D cI cC cS i3 (0 : Int32) (2 : Int32) H.size h3) (cwS 3 hts gX9_beside_X9_isWithin rfl rfl rfl (by decide +kernel) ⟨Nat.le_of_ble_eq_true rfl, Nat.le_of_ble_eq_true rfl⟩) (kpre hK hN hP hD [] rfl (by decide)) rfl rfl hl.1 rfl (lv_room (Nat.le_of_ble_eq_true rfl)) dX9_beside_14 ⟨Nat.le_refl _, Nat.le_refl _⟩) hP hD hS hA rfl (fun H locs hP hS => ?_)
    refine lv_if_ne (tgt := 23) hx hb dX9_beside_17 (by decide) (fun g => ?_) (fun g => ?_)
    · rw [if_neg g] at h
      refine lv_aload_n hx hb dX9_beside_23 rfl (lv_at hl 0 rfl) ?_
      refine va_get (D := D) (ci := 9) (v := .ref aS) (C := RX9) (T := TX9) (N := 7) hx hb hts huX9 hown hK hP 0 rfl rfl 0 (by decide) (hts (.fieldLink RX9 12 "VerseColumns" "state" "LVerseColumns$State;") (by decide +kernel)) (fun _ h9 => h9) rfl dX9_beside_24 ?_
      refine va_getN (D := D) (ci := 7) (v := .ref aM.1) (C := RX7) (T := TX7) (N := 3) hx hb hts huX7 hown hK hP 1 rfl rfl 2 (by decide) (hN.f 11 rfl) (fun _ h9 => h9) rfl dX9_beside_27 ?_
      refine lv_iload_n hx hb dX9_beside_30 rfl (lv_at hl 1 rfl) ?_
      refine lv_iload_n hx hb dX9_beside_31 rfl (lv_at hl 2 rfl) ?_
      obtain ⟨q6, h5, h⟩ := Option.bind_eq_some_iff.mp h
      refine kcir [10, 11, 12] (va_runV (As := [.int i1, .int i2]) (rest := []) ⟨hx, hb, hml, hown, hts⟩ (kX1_groupOf l D cI cC cS aM vM0 vM1 vM2 i1 i2 H.size h5) (cwV 2 hts gX9_beside_X1_groupOf rfl rfl rfl (by decide +kernel) ⟨Nat.le_of_ble_eq_true rfl, Nat.le_of_ble_eq_true rfl⟩) (kpreV hK hN hP hD [10, 11, 12] rfl (by decide) 1 rfl rfl) rfl rfl hl.1 rfl (lv_room (Nat.le_of_ble_eq_true rfl)) dX9_beside_32 ⟨Nat.le_refl _, Nat.le_refl _⟩) hP hD hS hA rfl (fun H locs hP hS => ?_)
      refine lv_istore (lv' := [(4, .int q6), (0, .ref aV), (1, .int i1), (2, .int i2), (3, .int i3)]) hx hb dX9_beside_35 hl (by decide) rfl (fun ls hl => ?_)
      refine lv_iload_n hx hb dX9_beside_37 rfl (lv_at hl 4 rfl) ?_
      refine lv_if_ne (tgt := 44) hx hb dX9_beside_38 (by decide) (fun g => ?_) (fun g => ?_)
      · rw [if_neg g] at h
        refine lv_iload_n hx hb dX9_beside_44 rfl (lv_at hl 2 rfl) ?_
        obtain ⟨q8, h7, h⟩ := Option.bind_eq_some_iff.mp h
        refine kcir [] (va_runS (As := [.int i1]) (rest := []) ⟨hx, hb, hml, hown, hts⟩ (kX9_otherBook l D cI cC cS i1 H.size h7) (cwS 1 hts gX9_beside_X9_otherBook rfl rfl rfl (by decide +kernel) ⟨Nat.le_of_ble_eq_true rfl, Nat.le_of_ble_eq_true rfl⟩) (kpre hK hN hP hD [] rfl (by decide)) rfl rfl hl.1 rfl (lv_room (Nat.le_of_ble_eq_true rfl)) dX9_beside_45 ⟨Nat.le_refl _, Nat.le_refl _⟩) hP hD hS hA rfl (fun H locs hP hS => ?_)
        refine lv_istore (lv' := [(5, .int q8), (4, .int q6), (0, .ref aV), (1, .int i1), (2, .int i2), (3, .int i3)]) hx hb dX9_beside_48 hl (by decide) rfl (fun ls hl => ?_)
        refine lv_aload_n hx hb dX9_beside_50 rfl (lv_at hl 2 rfl) ?_
        refine va_get (D := D) (ci := 9) (v := .ref aS) (C := RX9) (T := TX9) (N := 7) hx hb hts huX9 hown hK hP 0 rfl rfl 0 (by decide) (hts (.fieldLink RX9 12 "VerseColumns" "state" "LVerseColumns$State;") (by decide +kernel)) (fun _ h9 => h9) rfl dX9_beside_51 ?_
        refine va_getN (D := D) (ci := 7) (v := .ref aM.1) (C := RX7) (T := TX7) (N := 3) hx hb hts huX7 hown hK hP 1 rfl rfl 2 (by decide) (hN.f 11 rfl) (fun _ h9 => h9) rfl dX9_beside_54 ?_
        refine lv_iload hx hb dX9_beside_57 (lv_at hl 1 rfl) ?_
        refine lv_iload hx hb dX9_beside_59 (lv_at hl 0 rfl) ?_
        obtain ⟨q10, h9, h⟩ := Option.bind_eq_some_iff.mp h
        refine kcir [10, 11, 12] (va_runV (As := [.int q6, .int q8]) (rest := []) ⟨hx, hb, hml, hown, hts⟩ (kX1_sizeOf l D cI cC cS aM vM0 vM1 vM2 q6 q8 H.size h9) (cwV 2 hts gX9_beside_X1_sizeOf rfl rfl rfl (by decide +kernel) ⟨Nat.le_of_ble_eq_true rfl, Nat.le_of_ble_eq_true rfl⟩) (kpreV hK hN hP hD [10, 11, 12] rfl (by decide) 1 rfl rfl) rfl rfl hl.1 rfl (lv_room (Nat.le_of_ble_eq_true rfl)) dX9_beside_61 ⟨Nat.le_refl _, Nat.le_refl _⟩) hP hD hS hA rfl (fun H locs hP hS => ?_)
        refine lv_istore (lv' := [(6, .int q10), (5, .int q8), (4, .int q6), (0, .ref aV), (1, .int i1), (2, .int i2), (3, .int i3)]) hx hb dX9_beside_64 hl (by decide) rfl (fun ls hl => ?_)
        refine lv_iload hx hb dX9_beside_66 (lv_at hl 0 rfl) ?_
        refine lv_if_ne (tgt := 74) hx hb dX9_beside_68 (by decide) (fun g => ?_) (fun g => ?_)
        · rw [if_neg g] at h
          refine lv_aload_n hx hb dX9_beside_74 rfl (lv_at hl 3 rfl) ?_
          refine va_get (D := D) (ci := 9) (v := .ref aS) (C := RX9) (T := TX9) (N := 7) hx hb hts huX9 hown hK hP 0 rfl rfl 0 (by decide) (hts (.fieldLink RX9 12 "VerseColumns" "state" "LVerseColumns$State;") (by decide +kernel)) (fun _ h9 => h9) rfl dX9_beside_75 ?_
          refine va_getN (D := D) (ci := 7) (v := .ref aM.1) (C := RX7) (T := TX7) (N := 3) hx hb hts huX7 hown hK hP 1 rfl rfl 2 (by decide) (hN.f 11 rfl) (fun _ h9 => h9) rfl dX9_beside_78 ?_
          refine lv_iload hx hb dX9_beside_81 (lv_at hl 2 rfl) ?_
          refine lv_iload hx hb dX9_beside_83 (lv_at hl 1 rfl) ?_
          obtain ⟨q12, h11, h⟩ := Option.bind_eq_some_iff.mp h
          refine kcir [10, 11, 12] (va_runV (As := [.int q6, .int q8]) (rest := []) ⟨hx, hb, hml, hown, hts⟩ (kX1_firstOf l D cI cC cS aM vM0 vM1 vM2 q6 q8 H.size h11) (cwV 2 hts gX9_beside_X1_firstOf rfl rfl rfl (by decide +kernel) ⟨Nat.le_of_ble_eq_true rfl, Nat.le_of_ble_eq_true rfl⟩) (kpreV hK hN hP hD [10, 11, 12] rfl (by decide) 1 rfl rfl) rfl rfl hl.1 rfl (lv_room (Nat.le_of_ble_eq_true rfl)) dX9_beside_85 ⟨Nat.le_refl _, Nat.le_refl _⟩) hP hD hS hA rfl (fun H locs hP hS => ?_)
          refine lv_istore (lv' := [(7, .int q12), (6, .int q10), (5, .int q8), (4, .int q6), (0, .ref aV), (1, .int i1), (2, .int i2), (3, .int i3)]) hx hb dX9_beside_88 hl (by decide) rfl (fun ls hl => ?_)
          refine lv_iload_n hx hb dX9_beside_90 rfl (lv_at hl 7 rfl) ?_
          refine lv_iconst (v := (1 : Int32)) hx hb dX9_beside_91 (by decide) ?_
          refine lv_icmp_ne (tgt := 100) hx hb dX9_beside_92 (by decide) (fun g => ?_) (fun g => ?_)
          · rw [if_neg g] at h
            refine lv_iload hx hb dX9_beside_100 (lv_at hl 0 rfl) ?_
            refine lv_iload hx hb dX9_beside_102 (lv_at hl 1 rfl) ?_
            refine lv_iadd hx hb dX9_beside_104 ?_
            refine lv_iconst (v := (1 : Int32)) hx hb dX9_beside_105 (by decide) ?_
            refine lv_isub hx hb dX9_beside_106 ?_
            obtain rfl := Option.some.inj h
            exact W.iret (v := ((q12 + q10) - (1 : Int32))) hx hb hr (fun t ht hW => ⟨⟨_, (), rfl, rfl, by rw [ht]; exact hP, hD⟩, hS.F ht⟩) hS.2.2 dX9_beside_107
          · rw [if_pos g] at h
            refine lv_iload hx hb dX9_beside_95 (lv_at hl 0 rfl) ?_
            refine lv_goto (tgt := 107) hx hb dX9_beside_97 (by decide) ?_
            obtain rfl := Option.some.inj h
            exact W.iret (v := q12) hx hb hr (fun t ht hW => ⟨⟨_, (), rfl, rfl, by rw [ht]; exact hP, hD⟩, hS.F ht⟩) hS.2.2 dX9_beside_107
        · rw [if_pos g] at h
          refine lv_bipush (v := (-5 : Int32)) hx hb dX9_beside_71 (by decide) ?_
          obtain rfl := Option.some.inj h
          exact W.iret (v := (-5 : Int32)) hx hb hr (fun t ht hW => ⟨⟨_, (), rfl, rfl, by rw [ht]; exact hP, hD⟩, hS.F ht⟩) hS.2.2 dX9_beside_73
      · rw [if_pos g] at h
        refine lv_iload hx hb dX9_beside_41 (lv_at hl 0 rfl) ?_
        obtain rfl := Option.some.inj h
        exact W.iret (v := q6) hx hb hr (fun t ht hW => ⟨⟨_, (), rfl, rfl, by rw [ht]; exact hP, hD⟩, hS.F ht⟩) hS.2.2 dX9_beside_43
    · rw [if_pos g] at h
      refine lv_bipush (v := (-2 : Int32)) hx hb dX9_beside_20 (by decide) ?_
      obtain rfl := Option.some.inj h
      exact W.iret (v := (-2 : Int32)) hx hb hr (fun t ht hW => ⟨⟨_, (), rfl, rfl, by rw [ht]; exact hP, hD⟩, hS.F ht⟩) hS.2.2 dX9_beside_22
  · rw [if_pos g] at h
    refine lv_iconst (v := (-1 : Int32)) hx hb dX9_beside_9 (by decide) ?_
    obtain rfl := Option.some.inj h
    exact W.iret (v := (-1 : Int32)) hx hb hr (fun t ht hW => ⟨⟨_, (), rfl, rfl, by rw [ht]; exact hP, hD⟩, hS.F ht⟩) hS.2.2 dX9_beside_10
set_option maxHeartbeats 8000000 in
set_option maxRecDepth 100000 in
theorem kX9_setWidth (l : Launch) (D : va_G) (cI cC cS : ClassId) (aV : Nat) (xV0 : Nat) (xV1 : Nat) (xV2 : Nat) (xV3 : Nat) (xV4 : Nat) (xV5 : Nat) (aY : Nat × Nat × Nat × Nat × Nat) (vY0 : Int32) (vY1 : Int32) (vY2 : Int32) (vY3 : Int32) (vY4 : (Nat → Int32)) (vY5 : (Nat → Int32)) (vY6 : (Nat → Int32)) (vY7 : (Nat → Int32)) (vY8 : Int32) (vY9 : Int32) (vY10 : Int32) (i1 : Int32) (i2 : Int32) (sz : Nat) {q : Int32 × Int32 × Int32} (h : pX9_setWidth vY0 vY1 i1 i2 = some q) : kMi l yX9_setWidth wsX9_setWidth ({ frames := 1, cells := 0, slots := 0, locals := 22 } : Room) D (kTy cI cC cS) [.ref aV, .int i1, .int i2] (wVC aV xV0 xV1 xV2 xV3 xV4 xV5 aY.1 ++ wLY cI aY vY0 vY1 vY2 vY3 vY4 vY5 vY6 vY7 vY8 vY9 vY10) sz q.1 (wVC aV xV0 xV1 xV2 xV3 xV4 xV5 aY.1 ++ wLY cI aY q.2.1 q.2.2 vY2 vY3 vY4 vY5 vY6 vY7 vY8 vY9 vY10) := by
  refine Met.ofW (cc := cX9_setWidth) (maxL := 4) (ret := (some .int)) (by decide) rfl ?_
  intro p e s m args below meth c s₁ B hml hv
  obtain ⟨rfl, hsz, hP, hK, hD0, hN⟩ := hv
  have hx := B.exec
  have hb := B.bytes
  have hr := B.returns
  have hts := atoms_spec (ws := wsX9_setWidth) B.pre
  have hown : s.vm.findClass RX9 = some m.cls := findClass_of_methodNamed B.named
  have hlocks := B.notSynchronized
  subst hsz
  have hD := hD0.self (sz := s.heap.size)
  generalize hAe : va_A (wVC aV xV0 xV1 xV2 xV3 xV4 xV5 aY.1 ++ wLY cI aY vY0 vY1 vY2 vY3 vY4 vY5 vY6 vY7 vY8 vY9 vY10) s.heap.size = A at hD ⊢
  have hA : ∀ q : Nat, s.heap.size ≤ q → A q := fun q h => by rw [← hAe]; exact Or.inr h
  have hS : va_S A s.heap s.heap [] := va_S.rf
  have huX9 : ∀ w ∈ u_ws RX9 TX9 7, w ∈ wsX9_setWidth := by decide +kernel
  have hl := lv_entry ([.ref aV, .int i1, .int i2]) (n := 4) (Nat.le_of_ble_eq_true rfl)
  rw [lg_entry_eq]
  generalize (lg_sl ([.ref aV, .int i1, .int i2]) ++ List.replicate (4 - (lg_sl ([.ref aV, .int i1, .int i2])).length) Slot.unset).toArray = ls at hl ⊢
  have hl : lv_has ls 4 [(0, .ref aV), (1, .int i1), (2, .int i2)] := hl
  unfold pX9_setWidth at h
  refine lv_iload_n hx hb dX9_setWidth_0 rfl (lv_at hl 1 rfl) ?_
  obtain ⟨q2, h1, h⟩ := Option.bind_eq_some_iff.mp h
  refine kcir [] (va_runS (As := [.int i1]) (rest := []) ⟨hx, hb, hml, hown, hts⟩ (kX9_isBook l D cI cC cS i1 s.heap.size h1) (cwS 1 hts gX9_setWidth_X9_isBook rfl rfl rfl (by decide +kernel) ⟨Nat.le_of_ble_eq_true rfl, Nat.le_of_ble_eq_true rfl⟩) (kpre hK hN hP hD [] rfl (by decide)) rfl rfl hl.1 rfl (lv_room (Nat.le_of_ble_eq_true rfl)) dX9_setWidth_1 ⟨Nat.le_refl _, Nat.le_refl _⟩) hP hD hS hA rfl (fun H locs hP hS => ?_)
  refine lv_if_ne (tgt := 9) hx hb dX9_setWidth_4 (by decide) (fun g => ?_) (fun g => ?_)
  · rw [if_neg g] at h
    refine lv_iload_n hx hb dX9_setWidth_9 rfl (lv_at hl 2 rfl) ?_
    refine lv_bipush (v := (10 : Int32)) hx hb dX9_setWidth_10 (by decide) ?_
    refine lv_sipush (v := (200 : Int32)) hx hb dX9_setWidth_12 (by decide) ?_
    obtain ⟨q4, h3, h⟩ := Option.bind_eq_some_iff.mp h
    refine kcir [] (va_runS (As := [.int i2, .int (10 : Int32), .int (200 : Int32)]) (rest := []) ⟨hx, hb, hml, hown, hts⟩ (kX9_isWithin l D cI cC cS i2 (10 : Int32) (200 : Int32) H.size h3) (cwS 3 hts gX9_setWidth_X9_isWithin rfl rfl rfl (by decide +kernel) ⟨Nat.le_of_ble_eq_true rfl, Nat.le_of_ble_eq_true rfl⟩) (kpre hK hN hP hD [] rfl (by decide)) rfl rfl hl.1 rfl (lv_room (Nat.le_of_ble_eq_true rfl)) dX9_setWidth_15 ⟨Nat.le_refl _, Nat.le_refl _⟩) hP hD hS hA rfl (fun H locs hP hS => ?_)
    refine lv_if_ne (tgt := 24) hx hb dX9_setWidth_18 (by decide) (fun g => ?_) (fun g => ?_)
    · rw [if_neg g] at h
      refine lv_aload_n hx hb dX9_setWidth_24 rfl (lv_at hl 0 rfl) ?_
      refine va_get (D := D) (ci := 9) (v := .ref aY.1) (C := RX9) (T := TX9) (N := 7) hx hb hts huX9 hown hK hP 0 rfl rfl 6 (by decide) (hts (.fieldLink RX9 54 "VerseColumns" "layout" "LVerseColumns$Layout;") (by decide +kernel)) (fun _ h9 => h9) rfl dX9_setWidth_25 ?_
      refine lv_iload_n hx hb dX9_setWidth_28 rfl (lv_at hl 1 rfl) ?_
      obtain ⟨q6, h5, h⟩ := Option.bind_eq_some_iff.mp h
      refine kcir [1, 2, 3, 4, 5] (va_runV (As := [.int i1]) (rest := []) ⟨hx, hb, hml, hown, hts⟩ (kX3_widthOf l D cI cC cS aY vY0 vY1 vY2 vY3 vY4 vY5 vY6 vY7 vY8 vY9 vY10 i1 H.size h5) (cwV 1 hts gX9_setWidth_X3_widthOf rfl rfl rfl (by decide +kernel) ⟨Nat.le_of_ble_eq_true rfl, Nat.le_of_ble_eq_true rfl⟩) (kpreV hK hN hP hD [1, 2, 3, 4, 5] rfl (by decide) 3 rfl rfl) rfl rfl hl.1 rfl (lv_room (Nat.le_of_ble_eq_true rfl)) dX9_setWidth_29 ⟨Nat.le_refl _, Nat.le_refl _⟩) hP hD hS hA rfl (fun H locs hP hS => ?_)
      refine lv_istore_n (lv' := [(3, .int q6), (0, .ref aV), (1, .int i1), (2, .int i2)]) hx hb dX9_setWidth_32 rfl hl (by decide) rfl (fun ls hl => ?_)
      refine lv_aload_n hx hb dX9_setWidth_33 rfl (lv_at hl 1 rfl) ?_
      refine va_get (D := D) (ci := 9) (v := .ref aY.1) (C := RX9) (T := TX9) (N := 7) hx hb hts huX9 hown hK hP 0 rfl rfl 6 (by decide) (hts (.fieldLink RX9 54 "VerseColumns" "layout" "LVerseColumns$Layout;") (by decide +kernel)) (fun _ h9 => h9) rfl dX9_setWidth_34 ?_
      refine lv_iload_n hx hb dX9_setWidth_37 rfl (lv_at hl 2 rfl) ?_
      refine lv_iload_n hx hb dX9_setWidth_38 rfl (lv_at hl 3 rfl) ?_
      obtain ⟨q8, h7, h⟩ := Option.bind_eq_some_iff.mp h
      refine kcvw (ws' := (wVC aV xV0 xV1 xV2 xV3 xV4 xV5 aY.1 ++ wLY cI aY q8.1 q8.2 vY2 vY3 vY4 vY5 vY6 vY7 vY8 vY9 vY10)) [1, 2, 3, 4, 5] (va_runV (As := [.int i1, .int i2]) (rest := []) ⟨hx, hb, hml, hown, hts⟩ (kX3_changeWidth l D cI cC cS aY vY0 vY1 vY2 vY3 vY4 vY5 vY6 vY7 vY8 vY9 vY10 i1 i2 H.size h7) (cwV 2 hts gX9_setWidth_X3_changeWidth rfl rfl rfl (by decide +kernel) ⟨Nat.le_of_ble_eq_true rfl, Nat.le_of_ble_eq_true rfl⟩) (kpreV hK hN hP hD [1, 2, 3, 4, 5] rfl (by decide) 3 rfl rfl) rfl rfl hl.1 rfl (lv_room (Nat.le_of_ble_eq_true rfl)) dX9_setWidth_39 ⟨Nat.le_refl _, Nat.le_refl _⟩) hP hD hS hA rfl (by decide) rfl [0, 1, 2, 3, 4, 5] (by decide +kernel) rfl (fun H locs hP hD hS => ?_)
      refine lv_iload_n hx hb dX9_setWidth_42 rfl (lv_at hl 0 rfl) ?_
      obtain rfl := Option.some.inj h
      exact W.iret (v := q6) hx hb hr (fun t ht hW => ⟨⟨_, (), rfl, rfl, by rw [ht]; exact hP, hD⟩, hS.F ht⟩) hS.2.2 dX9_setWidth_43
    · rw [if_pos g] at h
      refine lv_bipush (v := (-2 : Int32)) hx hb dX9_setWidth_21 (by decide) ?_
      obtain rfl := Option.some.inj h
      exact W.iret (v := (-2 : Int32)) hx hb hr (fun t ht hW => ⟨⟨_, (), rfl, rfl, by rw [ht]; exact hP, hD⟩, hS.F ht⟩) hS.2.2 dX9_setWidth_23
  · rw [if_pos g] at h
    refine lv_iconst (v := (-1 : Int32)) hx hb dX9_setWidth_7 (by decide) ?_
    obtain rfl := Option.some.inj h
    exact W.iret (v := (-1 : Int32)) hx hb hr (fun t ht hW => ⟨⟨_, (), rfl, rfl, by rw [ht]; exact hP, hD⟩, hS.F ht⟩) hS.2.2 dX9_setWidth_8
set_option maxHeartbeats 8000000 in
set_option maxRecDepth 100000 in
theorem kX9_setHeights (l : Launch) (D : va_G) (cI cC cS : ClassId) (aV : Nat) (xV0 : Nat) (xV1 : Nat) (xV2 : Nat) (xV3 : Nat) (xV4 : Nat) (xV5 : Nat) (aY : Nat × Nat × Nat × Nat × Nat) (vY0 : Int32) (vY1 : Int32) (vY2 : Int32) (vY3 : Int32) (vY4 : (Nat → Int32)) (vY5 : (Nat → Int32)) (vY6 : (Nat → Int32)) (vY7 : (Nat → Int32)) (vY8 : Int32) (vY9 : Int32) (vY10 : Int32) (i1 : Int32) (i2 : Int32) (sz : Nat) {q : Int32 × Int32 × Int32} (h : pX9_setHeights vY2 vY3 i1 i2 = some q) : kMi l yX9_setHeights wsX9_setHeights ({ frames := 1, cells := 0, slots := 0, locals := 22 } : Room) D (kTy cI cC cS) [.ref aV, .int i1, .int i2] (wVC aV xV0 xV1 xV2 xV3 xV4 xV5 aY.1 ++ wLY cI aY vY0 vY1 vY2 vY3 vY4 vY5 vY6 vY7 vY8 vY9 vY10) sz q.1 (wVC aV xV0 xV1 xV2 xV3 xV4 xV5 aY.1 ++ wLY cI aY vY0 vY1 q.2.1 q.2.2 vY4 vY5 vY6 vY7 vY8 vY9 vY10) := by
  refine Met.ofW (cc := cX9_setHeights) (maxL := 4) (ret := (some .int)) (by decide) rfl ?_
  intro p e s m args below meth c s₁ B hml hv
  obtain ⟨rfl, hsz, hP, hK, hD0, hN⟩ := hv
  have hx := B.exec
  have hb := B.bytes
  have hr := B.returns
  have hts := atoms_spec (ws := wsX9_setHeights) B.pre
  have hown : s.vm.findClass RX9 = some m.cls := findClass_of_methodNamed B.named
  have hlocks := B.notSynchronized
  subst hsz
  have hD := hD0.self (sz := s.heap.size)
  generalize hAe : va_A (wVC aV xV0 xV1 xV2 xV3 xV4 xV5 aY.1 ++ wLY cI aY vY0 vY1 vY2 vY3 vY4 vY5 vY6 vY7 vY8 vY9 vY10) s.heap.size = A at hD ⊢
  have hA : ∀ q : Nat, s.heap.size ≤ q → A q := fun q h => by rw [← hAe]; exact Or.inr h
  have hS : va_S A s.heap s.heap [] := va_S.rf
  have huX3 : ∀ w ∈ u_ws RX3 TX3 11, w ∈ wsX9_setHeights := by decide +kernel
  have huX9 : ∀ w ∈ u_ws RX9 TX9 7, w ∈ wsX9_setHeights := by decide +kernel
  have hl := lv_entry ([.ref aV, .int i1, .int i2]) (n := 4) (Nat.le_of_ble_eq_true rfl)
  rw [lg_entry_eq]
  generalize (lg_sl ([.ref aV, .int i1, .int i2]) ++ List.replicate (4 - (lg_sl ([.ref aV, .int i1, .int i2])).length) Slot.unset).toArray = ls at hl ⊢
  have hl : lv_has ls 4 [(0, .ref aV), (1, .int i1), (2, .int i2)] := hl
  unfold pX9_setHeights at h
  refine lv_iload_n hx hb dX9_setHeights_0 rfl (lv_at hl 1 rfl) ?_
  refine lv_iconst (v := (5 : Int32)) hx hb dX9_setHeights_1 (by decide) ?_
  refine lv_sipush (v := (200 : Int32)) hx hb dX9_setHeights_2 (by decide) ?_
  obtain ⟨q2, h1, h⟩ := Option.bind_eq_some_iff.mp h
  refine kcir [] (va_runS (As := [.int i1, .int (5 : Int32), .int (200 : Int32)]) (rest := []) ⟨hx, hb, hml, hown, hts⟩ (kX9_isWithin l D cI cC cS i1 (5 : Int32) (200 : Int32) s.heap.size h1) (cwS 3 hts gX9_setHeights_X9_isWithin rfl rfl rfl (by decide +kernel) ⟨Nat.le_of_ble_eq_true rfl, Nat.le_of_ble_eq_true rfl⟩) (kpre hK hN hP hD [] rfl (by decide)) rfl rfl hl.1 rfl (lv_room (Nat.le_of_ble_eq_true rfl)) dX9_setHeights_5 ⟨Nat.le_refl _, Nat.le_refl _⟩) hP hD hS hA rfl (fun H locs hP hS => ?_)
  refine lv_if_eq (tgt := 20) hx hb dX9_setHeights_8 (by decide) (fun g => ?_) (fun g => ?_)
  · rw [if_pos g] at h
    refine lv_bipush (v := (-2 : Int32)) hx hb dX9_setHeights_20 (by decide) ?_
    obtain rfl := Option.some.inj h
    exact W.iret (v := (-2 : Int32)) hx hb hr (fun t ht hW => ⟨⟨_, (), rfl, rfl, by rw [ht]; exact hP, hD⟩, hS.F ht⟩) hS.2.2 dX9_setHeights_22
  · rw [if_neg g] at h
    refine lv_iload_n hx hb dX9_setHeights_11 rfl (lv_at hl 2 rfl) ?_
    refine lv_iconst (v := (0 : Int32)) hx hb dX9_setHeights_12 (by decide) ?_
    refine lv_iconst (v := (5 : Int32)) hx hb dX9_setHeights_13 (by decide) ?_
    obtain ⟨q4, h3, h⟩ := Option.bind_eq_some_iff.mp h
    refine kcir [] (va_runS (As := [.int i2, .int (0 : Int32), .int (5 : Int32)]) (rest := []) ⟨hx, hb, hml, hown, hts⟩ (kX9_isWithin l D cI cC cS i2 (0 : Int32) (5 : Int32) H.size h3) (cwS 3 hts gX9_setHeights_X9_isWithin rfl rfl rfl (by decide +kernel) ⟨Nat.le_of_ble_eq_true rfl, Nat.le_of_ble_eq_true rfl⟩) (kpre hK hN hP hD [] rfl (by decide)) rfl rfl hl.1 rfl (lv_room (Nat.le_of_ble_eq_true rfl)) dX9_setHeights_14 ⟨Nat.le_refl _, Nat.le_refl _⟩) hP hD hS hA rfl (fun H locs hP hS => ?_)
    refine lv_if_ne (tgt := 23) hx hb dX9_setHeights_17 (by decide) (fun g => ?_) (fun g => ?_)
    · rw [if_neg g] at h
      refine lv_aload_n hx hb dX9_setHeights_23 rfl (lv_at hl 0 rfl) ?_
      refine va_get (D := D) (ci := 9) (v := .ref aY.1) (C := RX9) (T := TX9) (N := 7) hx hb hts huX9 hown hK hP 0 rfl rfl 6 (by decide) (hts (.fieldLink RX9 54 "VerseColumns" "layout" "LVerseColumns$Layout;") (by decide +kernel)) (fun _ h9 => h9) rfl dX9_setHeights_24 ?_
      refine va_getN (D := D) (ci := 3) (v := .int vY2) (C := RX3) (T := TX3) (N := 11) hx hb hts huX3 hown hK hP 1 rfl rfl 2 (by decide) (hN.f 24 rfl) (fun _ h9 => h9) rfl dX9_setHeights_27 ?_
      refine lv_istore_n (lv' := [(3, .int vY2), (0, .ref aV), (1, .int i1), (2, .int i2)]) hx hb dX9_setHeights_30 rfl hl (by decide) rfl (fun ls hl => ?_)
      refine lv_aload_n hx hb dX9_setHeights_31 rfl (lv_at hl 1 rfl) ?_
      refine va_get (D := D) (ci := 9) (v := .ref aY.1) (C := RX9) (T := TX9) (N := 7) hx hb hts huX9 hown hK hP 0 rfl rfl 6 (by decide) (hts (.fieldLink RX9 54 "VerseColumns" "layout" "LVerseColumns$Layout;") (by decide +kernel)) (fun _ h9 => h9) rfl dX9_setHeights_32 ?_
      refine lv_iload_n hx hb dX9_setHeights_35 rfl (lv_at hl 2 rfl) ?_
      refine va_putN (D := D) (ci := 3) (v := .int i1) (ty := .int) (C := RX3) (T := TX3) (N := 11) hx hb hts huX3 tyX3 tyX3_ok nmX3 hown hK hP hD hS 1 rfl rfl 2 (by decide) (hN.f 24 rfl) (fun _ h9 => h9) rfl (by decide +kernel) rfl rfl (Nat.le_of_ble_eq_true rfl) dX9_setHeights_36 (fun H locs hP hD hS => ?_)
      have hP : va_P D vwCl (wVC aV xV0 xV1 xV2 xV3 xV4 xV5 aY.1 ++ wLY cI aY vY0 vY1 i1 vY3 vY4 vY5 vY6 vY7 vY8 vY9 vY10) H := hP
      have hD : va_D A (wVC aV xV0 xV1 xV2 xV3 xV4 xV5 aY.1 ++ wLY cI aY vY0 vY1 i1 vY3 vY4 vY5 vY6 vY7 vY8 vY9 vY10) := hD
      refine lv_aload_n hx hb dX9_setHeights_39 rfl (lv_at hl 1 rfl) ?_
      refine va_get (D := D) (ci := 9) (v := .ref aY.1) (C := RX9) (T := TX9) (N := 7) hx hb hts huX9 hown hK hP 0 rfl rfl 6 (by decide) (hts (.fieldLink RX9 54 "VerseColumns" "layout" "LVerseColumns$Layout;") (by decide +kernel)) (fun _ h9 => h9) rfl dX9_setHeights_40 ?_
      refine lv_iload_n hx hb dX9_setHeights_43 rfl (lv_at hl 3 rfl) ?_
      refine va_putN (D := D) (ci := 3) (v := .int i2) (ty := .int) (C := RX3) (T := TX3) (N := 11) hx hb hts huX3 tyX3 tyX3_ok nmX3 hown hK hP hD hS 1 rfl rfl 3 (by decide) (hN.f 25 rfl) (fun _ h9 => h9) rfl (by decide +kernel) rfl rfl (Nat.le_of_ble_eq_true rfl) dX9_setHeights_44 (fun H locs hP hD hS => ?_)
      have hP : va_P D vwCl (wVC aV xV0 xV1 xV2 xV3 xV4 xV5 aY.1 ++ wLY cI aY vY0 vY1 i1 i2 vY4 vY5 vY6 vY7 vY8 vY9 vY10) H := hP
      have hD : va_D A (wVC aV xV0 xV1 xV2 xV3 xV4 xV5 aY.1 ++ wLY cI aY vY0 vY1 i1 i2 vY4 vY5 vY6 vY7 vY8 vY9 vY10) := hD
      refine lv_iload_n hx hb dX9_setHeights_47 rfl (lv_at hl 0 rfl) ?_
      obtain rfl := Option.some.inj h
      exact W.iret (v := vY2) hx hb hr (fun t ht hW => ⟨⟨_, (), rfl, rfl, by rw [ht]; exact hP, hD⟩, hS.F ht⟩) hS.2.2 dX9_setHeights_48
    · rw [if_pos g] at h
      refine lv_bipush (v := (-2 : Int32)) hx hb dX9_setHeights_20 (by decide) ?_
      obtain rfl := Option.some.inj h
      exact W.iret (v := (-2 : Int32)) hx hb hr (fun t ht hW => ⟨⟨_, (), rfl, rfl, by rw [ht]; exact hP, hD⟩, hS.F ht⟩) hS.2.2 dX9_setHeights_22
