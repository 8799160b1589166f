-- walks: reach (printed by wip/whole/gen)
set_option maxHeartbeats 8000000 in
set_option maxRecDepth 100000 in
theorem kX5_takeOther (l : Launch) (D : va_G) (cI cC cS : ClassId) (aE : Nat) (vE0 : Int32) (vE1 : Int32) (vE2 : Int32) (vE3 : Int32) (vE4 : Int32) (vE5 : Int32) (vE6 : Int32) (i1 : Int32) (i2 : Int32) (sz : Nat) {q : Int32 × Int32 × Int32} (h : pX5_takeOther vE3 vE4 vE5 i1 i2 = some q) : kMv l yX5_takeOther wsX5_takeOther ({ frames := 0, cells := 0, slots := 0, locals := 0 } : Room) D (kTy cI cC cS) [.ref aE, .int i1, .int i2] (wRE aE vE0 vE1 vE2 vE3 vE4 vE5 vE6) sz (wRE aE vE0 vE1 vE2 q.1 q.2.1 q.2.2 vE6) := by
  refine Met.ofW (cc := cX5_takeOther) (maxL := 3) (ret := none) (by decide) rfl ?_
  intro p e s m args below meth c s₁ B hml hv
  obtain ⟨rfl, hsz, hP, hK, hD0, hN⟩ := hv
  have hx := B.exec
  have hb := B.bytes
  have hr := B.returns
  have hts := atoms_spec (ws := wsX5_takeOther) B.pre
  have hown : s.vm.findClass RX5 = some m.cls := findClass_of_methodNamed B.named
  have hlocks := B.notSynchronized
  subst hsz
  have hD := hD0.self (sz := s.heap.size)
  generalize hAe : va_A (wRE aE vE0 vE1 vE2 vE3 vE4 vE5 vE6) s.heap.size = A at hD ⊢
  have hA : ∀ q : Nat, s.heap.size ≤ q → A q := fun q h => by rw [← hAe]; exact Or.inr h
  have hS : va_S A s.heap s.heap [] := va_S.rf
  have huX5 : ∀ w ∈ u_ws RX5 TX5 7, w ∈ wsX5_takeOther := by decide +kernel
  have hl := lv_entry ([.ref aE, .int i1, .int i2]) (n := 3) (Nat.le_of_ble_eq_true rfl)
  rw [lg_entry_eq]
  generalize (lg_sl ([.ref aE, .int i1, .int i2]) ++ List.replicate (3 - (lg_sl ([.ref aE, .int i1, .int i2])).length) Slot.unset).toArray = ls at hl ⊢
  have hl : lv_has ls 3 [(0, .ref aE), (1, .int i1), (2, .int i2)] := hl
  have j18 : ∀ (c0_3 : Int32) (c0_4 : Int32) (c0_5 : Int32) (y1 : Int32) (y2 : Int32) (H : Heap) (locs : List Loc) (ls : Array Slot), pX5_takeOther_j18  c0_3 c0_4 c0_5 y1 y2 = some q → va_P D vwCl (wRE aE vE0 vE1 vE2 c0_3 c0_4 c0_5 vE6) H → va_D A (wRE aE vE0 vE1 vE2 c0_3 c0_4 c0_5 vE6) → va_S A s.heap H locs → lv_has ls 3 [(0, .ref aE), (1, .int y1), (2, .int y2)] → W p l e ({ frames := 0, cells := 0, slots := 0, locals := 0 } : Room) s m ([.ref aE, .int i1, .int i2] : List Value).toArray below meth c H locs 0 0 (MQ below (va_Qv (fun (_ : Unit) => True) (fun _ => kPost D (wRE aE vE0 vE1 vE2 q.1 q.2.1 q.2.2 vE6) A) A) ([.ref aE, .int i1, .int i2] : List Value).toArray s 0 0 A) (F0 m 18 ls []) := by
    clear h hP hD hS hl
    intro c0_3 c0_4 c0_5 y1 y2 H locs ls h hP hD hS hl
    unfold pX5_takeOther_j18 at h
    refine lv_aload_n hx hb dX5_takeOther_18 rfl (lv_at hl 0 rfl) ?_
    refine lv_iload_n hx hb dX5_takeOther_19 rfl (lv_at hl 2 rfl) ?_
    refine lv_iconst (v := (1 : Int32)) hx hb dX5_takeOther_20 (by decide) ?_
    refine lv_isub hx hb dX5_takeOther_21 ?_
    refine va_put (D := D) (ci := 5) (v := .int (y2 - (1 : Int32))) (ty := .int) (C := RX5) (T := TX5) (N := 7) hx hb hts huX5 tyX5 tyX5_ok nmX5 hown hK hP hD hS 0 rfl rfl 4 (by decide) (hts (.fieldLink RX5 24 "VerseColumns$Reach" "otherLast" "I") (by decide +kernel)) (fun _ h9 => h9) rfl (by decide +kernel) rfl rfl (Nat.le_of_ble_eq_true rfl) dX5_takeOther_22 (fun H locs hP hD hS => ?_)
    have hP : va_P D vwCl (wRE aE vE0 vE1 vE2 c0_3 (y2 - (1 : Int32)) c0_5 vE6) H := hP
    have hD : va_D A (wRE aE vE0 vE1 vE2 c0_3 (y2 - (1 : Int32)) c0_5 vE6) := hD
    refine lv_aload_n hx hb dX5_takeOther_25 rfl (lv_at hl 0 rfl) ?_
    refine lv_dup hx hb dX5_takeOther_26 rfl ?_
    refine va_get (D := D) (ci := 5) (v := .int c0_5) (C := RX5) (T := TX5) (N := 7) hx hb hts huX5 hown hK hP 0 rfl rfl 5 (by decide) (hts (.fieldLink RX5 27 "VerseColumns$Reach" "otherVerses" "I") (by decide +kernel)) (fun _ h9 => h9) rfl dX5_takeOther_27 ?_
    refine lv_iload_n hx hb dX5_takeOther_30 rfl (lv_at hl 2 rfl) ?_
    refine lv_iload_n hx hb dX5_takeOther_31 rfl (lv_at hl 1 rfl) ?_
    refine lv_isub hx hb dX5_takeOther_32 ?_
    refine lv_iadd hx hb dX5_takeOther_33 ?_
    refine va_put (D := D) (ci := 5) (v := .int (c0_5 + (y2 - y1))) (ty := .int) (C := RX5) (T := TX5) (N := 7) hx hb hts huX5 tyX5 tyX5_ok nmX5 hown hK hP hD hS 0 rfl rfl 5 (by decide) (hts (.fieldLink RX5 27 "VerseColumns$Reach" "otherVerses" "I") (by decide +kernel)) (fun _ h9 => h9) rfl (by decide +kernel) rfl rfl (Nat.le_of_ble_eq_true rfl) dX5_takeOther_34 (fun H locs hP hD hS => ?_)
    have hP : va_P D vwCl (wRE aE vE0 vE1 vE2 c0_3 (y2 - (1 : Int32)) (c0_5 + (y2 - y1)) vE6) H := hP
    have hD : va_D A (wRE aE vE0 vE1 vE2 c0_3 (y2 - (1 : Int32)) (c0_5 + (y2 - y1)) vE6) := hD
    obtain rfl := Option.some.inj h
    exact W.vret hx hb hr (fun t ht hW => ⟨⟨(), rfl, trivial, by rw [ht]; exact hP, hD⟩, hS.F ht⟩) hS.2.2 dX5_takeOther_37
  unfold pX5_takeOther at h
  refine lv_iload_n hx hb dX5_takeOther_0 rfl (lv_at hl 1 rfl) ?_
  refine lv_iload_n hx hb dX5_takeOther_1 rfl (lv_at hl 2 rfl) ?_
  refine lv_icmp_ne (tgt := 6) hx hb dX5_takeOther_2 (by decide) (fun g => ?_) (fun g => ?_)
  · rw [if_neg g] at h
    refine lv_aload_n hx hb dX5_takeOther_6 rfl (lv_at hl 0 rfl) ?_
    refine va_get (D := D) (ci := 5) (v := .int vE5) (C := RX5) (T := TX5) (N := 7) hx hb hts huX5 hown hK hP 0 rfl rfl 5 (by decide) (hts (.fieldLink RX5 27 "VerseColumns$Reach" "otherVerses" "I") (by decide +kernel)) (fun _ h9 => h9) rfl dX5_takeOther_7 ?_
    refine lv_if_ne (tgt := 18) hx hb dX5_takeOther_10 (by decide) (fun g => ?_) (fun g => ?_)
    · rw [if_neg g] at h
      exact j18 vE3 vE4 vE5 i1 i2 _ _ _ h hP hD hS (lv_sub hl [0, 1, 2] rfl)
    · rw [if_pos g] at h
      refine lv_aload_n hx hb dX5_takeOther_13 rfl (lv_at hl 0 rfl) ?_
      refine lv_iload_n hx hb dX5_takeOther_14 rfl (lv_at hl 1 rfl) ?_
      refine va_put (D := D) (ci := 5) (v := .int i1) (ty := .int) (C := RX5) (T := TX5) (N := 7) hx hb hts huX5 tyX5 tyX5_ok nmX5 hown hK hP hD hS 0 rfl rfl 3 (by decide) (hts (.fieldLink RX5 21 "VerseColumns$Reach" "otherFirst" "I") (by decide +kernel)) (fun _ h9 => h9) rfl (by decide +kernel) rfl rfl (Nat.le_of_ble_eq_true rfl) dX5_takeOther_15 (fun H locs hP hD hS => ?_)
      have hP : va_P D vwCl (wRE aE vE0 vE1 vE2 i1 vE4 vE5 vE6) H := hP
      have hD : va_D A (wRE aE vE0 vE1 vE2 i1 vE4 vE5 vE6) := hD
      exact j18 i1 vE4 vE5 i1 i2 _ _ _ h hP hD hS (lv_sub hl [0, 1, 2] rfl)
  · rw [if_pos g] at h
    obtain rfl := Option.some.inj h
    exact W.vret hx hb hr (fun t ht hW => ⟨⟨(), rfl, trivial, by rw [ht]; exact hP, hD⟩, hS.F ht⟩) hS.2.2 dX5_takeOther_5
set_option maxHeartbeats 8000000 in
set_option maxRecDepth 100000 in
theorem kX5_property (l : Launch) (D : va_G) (cI cC cS : ClassId) (aE : Nat) (vE0 : Int32) (vE1 : Int32) (vE2 : Int32) (vE3 : Int32) (vE4 : Int32) (vE5 : Int32) (vE6 : Int32) (i1 : Int32) (sz : Nat) {q : Int32} (h : pX5_property vE0 vE1 vE2 vE3 vE4 vE5 vE6 i1 = some q) : kMi l yX5_property wsX5_property ({ frames := 0, cells := 0, slots := 0, locals := 0 } : Room) D (kTy cI cC cS) [.ref aE, .int i1] (wRE aE vE0 vE1 vE2 vE3 vE4 vE5 vE6) sz q (wRE aE vE0 vE1 vE2 vE3 vE4 vE5 vE6) := by
  refine Met.ofW (cc := cX5_property) (maxL := 2) (ret := (some .int)) (by decide) rfl ?_
  intro p e s m args below meth c s₁ B hml hv
  obtain ⟨rfl, hsz, hP, hK, hD0, hN⟩ := hv
  have hx := B.exec
  have hb := B.bytes
  have hr := B.returns
  have hts := atoms_spec (ws := wsX5_property) B.pre
  have hown : s.vm.findClass RX5 = some m.cls := findClass_of_methodNamed B.named
  have hlocks := B.notSynchronized
  subst hsz
  have hD := hD0.self (sz := s.heap.size)
  generalize hAe : va_A (wRE aE vE0 vE1 vE2 vE3 vE4 vE5 vE6) s.heap.size = A at hD ⊢
  have hA : ∀ q : Nat, s.heap.size ≤ q → A q := fun q h => by rw [← hAe]; exact Or.inr h
  have hS : va_S A s.heap s.heap [] := va_S.rf
  have huX5 : ∀ w ∈ u_ws RX5 TX5 7, w ∈ wsX5_property := by decide +kernel
  have hl := lv_entry ([.ref aE, .int i1]) (n := 2) (Nat.le_of_ble_eq_true rfl)
  rw [lg_entry_eq]
  generalize (lg_sl ([.ref aE, .int i1]) ++ List.replicate (2 - (lg_sl ([.ref aE, .int i1])).length) Slot.unset).toArray = ls at hl ⊢
  have hl : lv_has ls 2 [(0, .ref aE), (1, .int i1)] := hl
  unfold pX5_property at h
  refine lv_iload_n hx hb dX5_property_0 rfl (lv_at hl 1 rfl) ?_
  by_cases g0 : i1 = 0
  · rw [if_pos g0] at h
    have e : i1.toInt = 0 := by rw [g0]; rfl
    refine lv_tableIn hx hb dX5_property_1 (off := 39) (tgt := 40) (by rw [e]; decide) (by rw [e]; decide) (by rw [e]; rfl) (by decide) ?_
    refine lv_aload_n hx hb dX5_property_40 rfl (lv_at hl 0 rfl) ?_
    refine va_get (D := D) (ci := 5) (v := .int vE0) (C := RX5) (T := TX5) (N := 7) hx hb hts huX5 hown hK hP 0 rfl rfl 0 (by decide) (hts (.fieldLink RX5 9 "VerseColumns$Reach" "first" "I") (by decide +kernel)) (fun _ h9 => h9) rfl dX5_property_41 ?_
    obtain rfl := Option.some.inj h
    exact W.iret (v := vE0) hx hb hr (fun t ht hW => ⟨⟨_, (), rfl, rfl, by rw [ht]; exact hP, hD⟩, hS.F ht⟩) hS.2.2 dX5_property_44
  · rw [if_neg g0] at h
    by_cases g1 : i1 = 1
    · rw [if_pos g1] at h
      have e : i1.toInt = 1 := by rw [g1]; rfl
      refine lv_tableIn hx hb dX5_property_1 (off := 44) (tgt := 45) (by rw [e]; decide) (by rw [e]; decide) (by rw [e]; rfl) (by decide) ?_
      refine lv_aload_n hx hb dX5_property_45 rfl (lv_at hl 0 rfl) ?_
      refine va_get (D := D) (ci := 5) (v := .int vE1) (C := RX5) (T := TX5) (N := 7) hx hb hts huX5 hown hK hP 0 rfl rfl 1 (by decide) (hts (.fieldLink RX5 15 "VerseColumns$Reach" "last" "I") (by decide +kernel)) (fun _ h9 => h9) rfl dX5_property_46 ?_
      obtain rfl := Option.some.inj h
      exact W.iret (v := vE1) hx hb hr (fun t ht hW => ⟨⟨_, (), rfl, rfl, by rw [ht]; exact hP, hD⟩, hS.F ht⟩) hS.2.2 dX5_property_49
    · rw [if_neg g1] at h
      by_cases g2 : i1 = 2
      · rw [if_pos g2] at h
        have e : i1.toInt = 2 := by rw [g2]; rfl
        refine lv_tableIn hx hb dX5_property_1 (off := 49) (tgt := 50) (by rw [e]; decide) (by rw [e]; decide) (by rw [e]; rfl) (by decide) ?_
        refine lv_aload_n hx hb dX5_property_50 rfl (lv_at hl 0 rfl) ?_
        refine va_get (D := D) (ci := 5) (v := .int vE3) (C := RX5) (T := TX5) (N := 7) hx hb hts huX5 hown hK hP 0 rfl rfl 3 (by decide) (hts (.fieldLink RX5 21 "VerseColumns$Reach" "otherFirst" "I") (by decide +kernel)) (fun _ h9 => h9) rfl dX5_property_51 ?_
        obtain rfl := Option.some.inj h
        exact W.iret (v := vE3) hx hb hr (fun t ht hW => ⟨⟨_, (), rfl, rfl, by rw [ht]; exact hP, hD⟩, hS.F ht⟩) hS.2.2 dX5_property_54
      · rw [if_neg g2] at h
        by_cases g3 : i1 = 3
        · rw [if_pos g3] at h
          have e : i1.toInt = 3 := by rw [g3]; rfl
          refine lv_tableIn hx hb dX5_property_1 (off := 54) (tgt := 55) (by rw [e]; decide) (by rw [e]; decide) (by rw [e]; rfl) (by decide) ?_
          refine lv_aload_n hx hb dX5_property_55 rfl (lv_at hl 0 rfl) ?_
          refine va_get (D := D) (ci := 5) (v := .int vE4) (C := RX5) (T := TX5) (N := 7) hx hb hts huX5 hown hK hP 0 rfl rfl 4 (by decide) (hts (.fieldLink RX5 24 "VerseColumns$Reach" "otherLast" "I") (by decide +kernel)) (fun _ h9 => h9) rfl dX5_property_56 ?_
          obtain rfl := Option.some.inj h
          exact W.iret (v := vE4) hx hb hr (fun t ht hW => ⟨⟨_, (), rfl, rfl, by rw [ht]; exact hP, hD⟩, hS.F ht⟩) hS.2.2 dX5_property_59
        · rw [if_neg g3] at h
          by_cases g4 : i1 = 4
          · rw [if_pos g4] at h
            have e : i1.toInt = 4 := by rw [g4]; rfl
            refine lv_tableIn hx hb dX5_property_1 (off := 59) (tgt := 60) (by rw [e]; decide) (by rw [e]; decide) (by rw [e]; rfl) (by decide) ?_
            refine lv_aload_n hx hb dX5_property_60 rfl (lv_at hl 0 rfl) ?_
            refine va_get (D := D) (ci := 5) (v := .int vE2) (C := RX5) (T := TX5) (N := 7) hx hb hts huX5 hown hK hP 0 rfl rfl 2 (by decide) (hts (.fieldLink RX5 18 "VerseColumns$Reach" "groups" "I") (by decide +kernel)) (fun _ h9 => h9) rfl dX5_property_61 ?_
            obtain rfl := Option.some.inj h
            exact W.iret (v := vE2) hx hb hr (fun t ht hW => ⟨⟨_, (), rfl, rfl, by rw [ht]; exact hP, hD⟩, hS.F ht⟩) hS.2.2 dX5_property_64
          · rw [if_neg g4] at h
            by_cases g5 : i1 = 5
            · rw [if_pos g5] at h
              have e : i1.toInt = 5 := by rw [g5]; rfl
              refine lv_tableIn hx hb dX5_property_1 (off := 64) (tgt := 65) (by rw [e]; decide) (by rw [e]; decide) (by rw [e]; rfl) (by decide) ?_
              refine lv_aload_n hx hb dX5_property_65 rfl (lv_at hl 0 rfl) ?_
              refine va_get (D := D) (ci := 5) (v := .int vE5) (C := RX5) (T := TX5) (N := 7) hx hb hts huX5 hown hK hP 0 rfl rfl 5 (by decide) (hts (.fieldLink RX5 27 "VerseColumns$Reach" "otherVerses" "I") (by decide +kernel)) (fun _ h9 => h9) rfl dX5_property_66 ?_
              obtain rfl := Option.some.inj h
              exact W.iret (v := vE5) hx hb hr (fun t ht hW => ⟨⟨_, (), rfl, rfl, by rw [ht]; exact hP, hD⟩, hS.F ht⟩) hS.2.2 dX5_property_69
            · rw [if_neg g5] at h
              have e0 := lv_neT (a := 0) g0 rfl
              have e1 := lv_neT (a := 1) g1 rfl
              have e2 := lv_neT (a := 2) g2 rfl
              have e3 := lv_neT (a := 3) g3 rfl
              have e4 := lv_neT (a := 4) g4 rfl
              have e5 := lv_neT (a := 5) g5 rfl
              refine lv_tableOut hx hb dX5_property_1 (tgt := 70) (by omega) (by decide) ?_
              refine lv_aload_n hx hb dX5_property_70 rfl (lv_at hl 0 rfl) ?_
              refine va_get (D := D) (ci := 5) (v := .int vE6) (C := RX5) (T := TX5) (N := 7) hx hb hts huX5 hown hK hP 0 rfl rfl 6 (by decide) (hts (.fieldLink RX5 30 "VerseColumns$Reach" "ownVerses" "I") (by decide +kernel)) (fun _ h9 => h9) rfl dX5_property_71 ?_
              refine lv_aload_n hx hb dX5_property_74 rfl (lv_at hl 0 rfl) ?_
              refine va_get (D := D) (ci := 5) (v := .int vE1) (C := RX5) (T := TX5) (N := 7) hx hb hts huX5 hown hK hP 0 rfl rfl 1 (by decide) (hts (.fieldLink RX5 15 "VerseColumns$Reach" "last" "I") (by decide +kernel)) (fun _ h9 => h9) rfl dX5_property_75 ?_
              refine lv_aload_n hx hb dX5_property_78 rfl (lv_at hl 0 rfl) ?_
              refine va_get (D := D) (ci := 5) (v := .int vE0) (C := RX5) (T := TX5) (N := 7) hx hb hts huX5 hown hK hP 0 rfl rfl 0 (by decide) (hts (.fieldLink RX5 9 "VerseColumns$Reach" "first" "I") (by decide +kernel)) (fun _ h9 => h9) rfl dX5_property_79 ?_
              refine lv_isub hx hb dX5_property_82 ?_
              refine lv_iconst (v := (1 : Int32)) hx hb dX5_property_83 (by decide) ?_
              refine lv_iadd hx hb dX5_property_84 ?_
              refine lv_icmp_ne (tgt := 92) hx hb dX5_property_85 (by decide) (fun g => ?_) (fun g => ?_)
              · rw [if_neg g] at h
                refine lv_iconst (v := (0 : Int32)) hx hb dX5_property_92 (by decide) ?_
                obtain rfl := Option.some.inj h
                exact W.iret (v := (0 : Int32)) hx hb hr (fun t ht hW => ⟨⟨_, (), rfl, rfl, by rw [ht]; exact hP, hD⟩, hS.F ht⟩) hS.2.2 dX5_property_93
              · rw [if_pos g] at h
                refine lv_iconst (v := (1 : Int32)) hx hb dX5_property_88 (by decide) ?_
                refine lv_goto (tgt := 93) hx hb dX5_property_89 (by decide) ?_
                obtain rfl := Option.some.inj h
                exact W.iret (v := (1 : Int32)) hx hb hr (fun t ht hW => ⟨⟨_, (), rfl, rfl, by rw [ht]; exact hP, hD⟩, hS.F ht⟩) hS.2.2 dX5_property_93
set_option maxHeartbeats 8000000 in
set_option maxRecDepth 100000 in
theorem kX5_measure (l : Launch) (D : va_G) (cI cC cS : ClassId) (aE : Nat) (vE0 : Int32) (vE1 : Int32) (vE2 : Int32) (vE3 : Int32) (vE4 : Int32) (vE5 : Int32) (vE6 : Int32) (aM : Nat × Nat × Nat) (vM0 : (Nat → Int32)) (vM1 : (Nat → Int32)) (vM2 : Int32) (i2 : Int32) (i3 : Int32) (i4 : Int32) (sz : Nat) {q : Int32 × Int32 × Int32 × Int32 × Int32 × Int32 × Int32} (h : pX5_measure vM0 vM1 vM2 i2 i3 i4 = some q) : kMv l yX5_measure wsX5_measure ({ frames := 2, cells := 0, slots := 0, locals := 43 } : Room) D (kTy cI cC cS) [.ref aE, .ref aM.1, .int i2, .int i3, .int i4] (wRE aE vE0 vE1 vE2 vE3 vE4 vE5 vE6 ++ wMP cI aM vM0 vM1 vM2) sz (wRE aE q.1 q.2.1 q.2.2.1 q.2.2.2.1 q.2.2.2.2.1 q.2.2.2.2.2.1 q.2.2.2.2.2.2 ++ wMP cI aM vM0 vM1 vM2) := by
  refine Met.ofW (cc := cX5_measure) (maxL := 10) (ret := none) (by decide) rfl ?_
  intro p e s m args below meth c s₁ B hml hv
  obtain ⟨rfl, hsz, hP, hK, hD0, hN⟩ := hv
  have hx := B.exec
  have hb := B.bytes
  have hr := B.returns
  have hts := atoms_spec (ws := wsX5_measure) B.pre
  have hown : s.vm.findClass RX5 = some m.cls := findClass_of_methodNamed B.named
  have hlocks := B.notSynchronized
  subst hsz
  have hD := hD0.self (sz := s.heap.size)
  generalize hAe : va_A (wRE aE vE0 vE1 vE2 vE3 vE4 vE5 vE6 ++ wMP cI aM vM0 vM1 vM2) s.heap.size = A at hD ⊢
  have hA : ∀ q : Nat, s.heap.size ≤ q → A q := fun q h => by rw [← hAe]; exact Or.inr h
  have hS : va_S A s.heap s.heap [] := va_S.rf
  have huX1 : ∀ w ∈ u_ws RX1 TX1 3, w ∈ wsX5_measure := by decide +kernel
  have huX5 : ∀ w ∈ u_ws RX5 TX5 7, w ∈ wsX5_measure := by decide +kernel
  have hl := lv_entry ([.ref aE, .ref aM.1, .int i2, .int i3, .int i4]) (n := 10) (Nat.le_of_ble_eq_true rfl)
  rw [lg_entry_eq]
  generalize (lg_sl ([.ref aE, .ref aM.1, .int i2, .int i3, .int i4]) ++ List.replicate (10 - (lg_sl ([.ref aE, .ref aM.1, .int i2, .int i3, .int i4])).length) Slot.unset).toArray = ls at hl ⊢
  have hl : lv_has ls 10 [(0, .ref aE), (1, .ref aM.1), (2, .int i2), (3, .int i3), (4, .int i4)] := hl
  have L47 : ∀ (nL47 : Nat) (c0_0 : Int32) (c0_1 : Int32) (c0_2 : Int32) (c0_3 : Int32) (c0_4 : Int32) (c0_5 : Int32) (c0_6 : Int32) (y2 : Int32) (y3 : Int32) (y4 : Int32) (y5 : Int32) (y6 : Int32) (y7 : Int32) (H : Heap) (locs : List Loc) (ls : Array Slot), pX5_measure_L47 vM0 vM1 vM2 nL47 c0_0 c0_1 c0_2 c0_3 c0_4 c0_5 c0_6 y2 y3 y4 y5 y6 y7 = some q → va_P D vwCl (wRE aE c0_0 c0_1 c0_2 c0_3 c0_4 c0_5 c0_6 ++ wMP cI aM vM0 vM1 vM2) H → va_D A (wRE aE c0_0 c0_1 c0_2 c0_3 c0_4 c0_5 c0_6 ++ wMP cI aM vM0 vM1 vM2) → va_S A s.heap H locs → lv_has ls 10 [(0, .ref aE), (1, .ref aM.1), (2, .int y2), (3, .int y3), (4, .int y4), (5, .int y5), (6, .int y6), (7, .int y7)] → W p l e ({ frames := 2, cells := 0, slots := 0, locals := 43 } : Room) s m ([.ref aE, .ref aM.1, .int i2, .int i3, .int i4] : List Value).toArray below meth c H locs 0 0 (MQ below (va_Qv (fun (_ : Unit) => True) (fun _ => kPost D (wRE aE q.1 q.2.1 q.2.2.1 q.2.2.2.1 q.2.2.2.2.1 q.2.2.2.2.2.1 q.2.2.2.2.2.2 ++ wMP cI aM vM0 vM1 vM2) A) A) ([.ref aE, .ref aM.1, .int i2, .int i3, .int i4] : List Value).toArray s 0 0 A) (F0 m 47 ls []) := by
    clear h hP hD hS hl
    intro nL47
    induction nL47 with
    | zero => intro c0_0 c0_1 c0_2 c0_3 c0_4 c0_5 c0_6 y2 y3 y4 y5 y6 y7 H locs ls h; have h : (none : Option (Int32 × Int32 × Int32 × Int32 × Int32 × Int32 × Int32)) = some q := h; cases h
    | succ nL47 ihL47 =>
      have j135 : ∀ (c0_0 : Int32) (c0_1 : Int32) (c0_2 : Int32) (c0_3 : Int32) (c0_4 : Int32) (c0_5 : Int32) (c0_6 : Int32) (y2 : Int32) (y3 : Int32) (y4 : Int32) (y7 : Int32) (y8 : Int32) (y9 : Int32) (H : Heap) (locs : List Loc) (ls : Array Slot), pX5_measure_j135 vM0 vM1 vM2 (pX5_measure_L47 vM0 vM1 vM2 nL47) c0_0 c0_1 c0_2 c0_3 c0_4 c0_5 c0_6 y2 y3 y4 y7 y8 y9 = some q → va_P D vwCl (wRE aE c0_0 c0_1 c0_2 c0_3 c0_4 c0_5 c0_6 ++ wMP cI aM vM0 vM1 vM2) H → va_D A (wRE aE c0_0 c0_1 c0_2 c0_3 c0_4 c0_5 c0_6 ++ wMP cI aM vM0 vM1 vM2) → va_S A s.heap H locs → lv_has ls 10 [(0, .ref aE), (1, .ref aM.1), (2, .int y2), (3, .int y3), (4, .int y4), (7, .int y7), (8, .int y8), (9, .int y9)] → W p l e ({ frames := 2, cells := 0, slots := 0, locals := 43 } : Room) s m ([.ref aE, .ref aM.1, .int i2, .int i3, .int i4] : List Value).toArray below meth c H locs 0 0 (MQ below (va_Qv (fun (_ : Unit) => True) (fun _ => kPost D (wRE aE q.1 q.2.1 q.2.2.1 q.2.2.2.1 q.2.2.2.2.1 q.2.2.2.2.2.1 q.2.2.2.2.2.2 ++ wMP cI aM vM0 vM1 vM2) A) A) ([.ref aE, .ref aM.1, .int i2, .int i3, .int i4] : List Value).toArray s 0 0 A) (F0 m 135 ls []) := by
        skip
        intro c0_0 c0_1 c0_2 c0_3 c0_4 c0_5 c0_6 y2 y3 y4 y7 y8 y9 H locs ls h hP hD hS hl
        unfold pX5_measure_j135 at h
        refine lv_iload hx hb dX5_measure_135 (lv_at hl 6 rfl) ?_
        refine lv_istore (lv' := [(5, .int y8), (0, .ref aE), (1, .ref aM.1), (2, .int y2), (3, .int y3), (4, .int y4), (7, .int y7), (8, .int y8), (9, .int y9)]) hx hb dX5_measure_137 hl (by decide) rfl (fun ls hl => ?_)
        refine lv_iload hx hb dX5_measure_139 (lv_at hl 8 rfl) ?_
        refine lv_istore (lv' := [(6, .int y9), (5, .int y8), (0, .ref aE), (1, .ref aM.1), (2, .int y2), (3, .int y3), (4, .int y4), (7, .int y7), (8, .int y8), (9, .int y9)]) hx hb dX5_measure_141 hl (by decide) rfl (fun ls hl => ?_)
        refine lv_iinc (v := (y7 + (1 : Int32))) (lv' := [(7, .int (y7 + (1 : Int32))), (6, .int y9), (5, .int y8), (0, .ref aE), (1, .ref aM.1), (2, .int y2), (3, .int y3), (4, .int y4), (8, .int y8), (9, .int y9)]) hx hb dX5_measure_143 hl (k := 7) rfl rfl (by decide) rfl (fun ls hl => ?_)
        refine lv_goto (tgt := 47) hx hb dX5_measure_146 (by decide) ?_
        exact ihL47 c0_0 c0_1 c0_2 c0_3 c0_4 c0_5 c0_6 y2 y3 y4 y8 y9 (y7 + (1 : Int32)) _ _ _ h hP hD hS (lv_sub hl [3, 4, 5, 6, 7, 2, 1, 0] rfl)
      intro c0_0 c0_1 c0_2 c0_3 c0_4 c0_5 c0_6 y2 y3 y4 y5 y6 y7 H locs ls h hP hD hS hl
      have h : pX5_measure_bL47 vM0 vM1 vM2 (pX5_measure_L47 vM0 vM1 vM2 nL47) c0_0 c0_1 c0_2 c0_3 c0_4 c0_5 c0_6 y2 y3 y4 y5 y6 y7 = some q := h
      unfold pX5_measure_bL47 at h
      refine lv_iload hx hb dX5_measure_47 (lv_at hl 7 rfl) ?_
      refine lv_aload_n hx hb dX5_measure_49 rfl (lv_at hl 1 rfl) ?_
      refine va_getN (D := D) (ci := 1) (v := .int vM2) (C := RX1) (T := TX1) (N := 3) hx hb hts huX1 hown hK hP 1 rfl rfl 2 (by decide) (hN.f 2 rfl) (fun _ h9 => h9) rfl dX5_measure_50 ?_
      refine lv_icmp_ge (tgt := 149) hx hb dX5_measure_53 (by decide) (fun g => ?_) (fun g => ?_)
      · rw [if_pos g] at h
        obtain rfl := Option.some.inj h
        exact W.vret hx hb hr (fun t ht hW => ⟨⟨(), rfl, trivial, by rw [ht]; exact hP, hD⟩, hS.F ht⟩) hS.2.2 dX5_measure_149
      · rw [if_neg g] at h
        refine lv_iload hx hb dX5_measure_56 (lv_at hl 5 rfl) ?_
        refine lv_aload_n hx hb dX5_measure_58 rfl (lv_at hl 1 rfl) ?_
        refine lv_iload hx hb dX5_measure_59 (lv_at hl 7 rfl) ?_
        refine lv_iload_n hx hb dX5_measure_61 rfl (lv_at hl 2 rfl) ?_
        obtain ⟨q2, h1, h⟩ := Option.bind_eq_some_iff.mp h
        refine kcir [1, 2, 3] (va_runV (As := [.int y7, .int y2]) (rest := [.int y5]) ⟨hx, hb, hml, hown, hts⟩ (kX1_sizeOf l D cI cC cS aM vM0 vM1 vM2 y7 y2 H.size h1) (cwV 2 hts gX5_measure_X1_sizeOf rfl rfl rfl (by decide +kernel) ⟨Nat.le_of_ble_eq_true rfl, Nat.le_of_ble_eq_true rfl⟩) (kpreV hK hN hP hD [1, 2, 3] rfl (by decide) 1 rfl rfl) rfl rfl hl.1 rfl (lv_room (Nat.le_of_ble_eq_true rfl)) dX5_measure_62 ⟨Nat.le_refl _, Nat.le_refl _⟩) hP hD hS hA rfl (fun H locs hP hS => ?_)
        refine lv_iadd hx hb dX5_measure_65 ?_
        refine lv_istore (lv' := [(8, .int (y5 + q2)), (0, .ref aE), (1, .ref aM.1), (2, .int y2), (3, .int y3), (4, .int y4), (5, .int y5), (6, .int y6), (7, .int y7)]) hx hb dX5_measure_66 hl (by decide) rfl (fun ls hl => ?_)
        refine lv_iload hx hb dX5_measure_68 (lv_at hl 7 rfl) ?_
        refine lv_aload_n hx hb dX5_measure_70 rfl (lv_at hl 2 rfl) ?_
        refine lv_iload hx hb dX5_measure_71 (lv_at hl 8 rfl) ?_
        refine lv_iload_n hx hb dX5_measure_73 rfl (lv_at hl 3 rfl) ?_
        obtain ⟨q4, h3, h⟩ := Option.bind_eq_some_iff.mp h
        refine kcir [] (va_runSN (As := [.int y2]) (rest := [.int y7, .ref aM.1, .int y6]) ⟨hx, hb, hml, hown, hts⟩ (kX9_otherBook l D cI cC cS y2 H.size h3) ⟨va_cnB 1 hts gX5_measure_X9_otherBook_n40 rfl rfl rfl (hN.m 22 rfl) (hts (.initialized RX9) (by decide +kernel)) (by decide +kernel) ⟨Nat.le_of_ble_eq_true rfl, Nat.le_of_ble_eq_true rfl⟩, hts (.static yX9_otherBook) (by decide +kernel), trivial⟩ (kpre hK hN hP hD [] rfl (by decide)) rfl rfl hl.1 rfl (lv_room (Nat.le_of_ble_eq_true rfl)) dX5_measure_74 ⟨Nat.le_refl _, Nat.le_refl _⟩) hP hD hS hA rfl (fun H locs hP hS => ?_)
        obtain ⟨q6, h5, h⟩ := Option.bind_eq_some_iff.mp h
        refine kcir [1, 2, 3] (va_runV (As := [.int y7, .int q4]) (rest := [.int y6]) ⟨hx, hb, hml, hown, hts⟩ (kX1_sizeOf l D cI cC cS aM vM0 vM1 vM2 y7 q4 H.size h5) (cwV 2 hts gX5_measure_X1_sizeOf rfl rfl rfl (by decide +kernel) ⟨Nat.le_of_ble_eq_true rfl, Nat.le_of_ble_eq_true rfl⟩) (kpreV hK hN hP hD [1, 2, 3] rfl (by decide) 1 rfl rfl) rfl rfl hl.1 rfl (lv_room (Nat.le_of_ble_eq_true rfl)) dX5_measure_77 ⟨Nat.le_refl _, Nat.le_refl _⟩) hP hD hS hA rfl (fun H locs hP hS => ?_)
        refine lv_iadd hx hb dX5_measure_80 ?_
        refine lv_istore (lv' := [(9, .int (y6 + q6)), (8, .int (y5 + q2)), (0, .ref aE), (1, .ref aM.1), (2, .int y2), (3, .int y3), (4, .int y4), (5, .int y5), (6, .int y6), (7, .int y7)]) hx hb dX5_measure_81 hl (by decide) rfl (fun ls hl => ?_)
        refine lv_iload hx hb dX5_measure_83 (lv_at hl 7 rfl) ?_
        refine lv_iload hx hb dX5_measure_85 (lv_at hl 1 rfl) ?_
        refine lv_icmp_ge (tgt := 135) hx hb dX5_measure_87 (by decide) (fun g => ?_) (fun g => ?_)
        · rw [if_pos g] at h
          exact j135 c0_0 c0_1 c0_2 c0_3 c0_4 c0_5 c0_6 y2 y3 y4 y7 (y5 + q2) (y6 + q6) _ _ _ h hP hD hS (lv_sub hl [2, 3, 4, 5, 6, 9, 1, 0] rfl)
        · rw [if_neg g] at h
          refine lv_iload hx hb dX5_measure_90 (lv_at hl 7 rfl) ?_
          refine lv_iload hx hb dX5_measure_92 (lv_at hl 6 rfl) ?_
          refine lv_icmp_gt (tgt := 135) hx hb dX5_measure_94 (by decide) (fun g => ?_) (fun g => ?_)
          · rw [if_pos g] at h
            exact j135 c0_0 c0_1 c0_2 c0_3 c0_4 c0_5 c0_6 y2 y3 y4 y7 (y5 + q2) (y6 + q6) _ _ _ h hP hD hS (lv_sub hl [2, 3, 4, 5, 6, 9, 1, 0] rfl)
          · rw [if_neg g] at h
            refine lv_iload hx hb dX5_measure_97 (lv_at hl 1 rfl) ?_
            refine lv_iload_n hx hb dX5_measure_99 rfl (lv_at hl 5 rfl) ?_
            refine lv_icmp_le (tgt := 135) hx hb dX5_measure_100 (by decide) (fun g => ?_) (fun g => ?_)
            · rw [if_pos g] at h
              exact j135 c0_0 c0_1 c0_2 c0_3 c0_4 c0_5 c0_6 y2 y3 y4 y7 (y5 + q2) (y6 + q6) _ _ _ h hP hD hS (lv_sub hl [2, 3, 4, 5, 6, 9, 1, 0] rfl)
            · rw [if_neg g] at h
              refine lv_aload_n hx hb dX5_measure_103 rfl (lv_at hl 2 rfl) ?_
              refine lv_dup hx hb dX5_measure_104 rfl ?_
              refine va_get (D := D) (ci := 5) (v := .int c0_2) (C := RX5) (T := TX5) (N := 7) hx hb hts huX5 hown hK hP 0 rfl rfl 2 (by decide) (hts (.fieldLink RX5 18 "VerseColumns$Reach" "groups" "I") (by decide +kernel)) (fun _ h9 => h9) rfl dX5_measure_105 ?_
              refine lv_iconst (v := (1 : Int32)) hx hb dX5_measure_108 (by decide) ?_
              refine lv_iadd hx hb dX5_measure_109 ?_
              refine va_put (D := D) (ci := 5) (v := .int (c0_2 + (1 : Int32))) (ty := .int) (C := RX5) (T := TX5) (N := 7) hx hb hts huX5 tyX5 tyX5_ok nmX5 hown hK hP hD hS 0 rfl rfl 2 (by decide) (hts (.fieldLink RX5 18 "VerseColumns$Reach" "groups" "I") (by decide +kernel)) (fun _ h9 => h9) rfl (by decide +kernel) rfl rfl (Nat.le_of_ble_eq_true rfl) dX5_measure_110 (fun H locs hP hD hS => ?_)
              have hP : va_P D vwCl (wRE aE c0_0 c0_1 (c0_2 + (1 : Int32)) c0_3 c0_4 c0_5 c0_6 ++ wMP cI aM vM0 vM1 vM2) H := hP
              have hD : va_D A (wRE aE c0_0 c0_1 (c0_2 + (1 : Int32)) c0_3 c0_4 c0_5 c0_6 ++ wMP cI aM vM0 vM1 vM2) := hD
              refine lv_aload_n hx hb dX5_measure_113 rfl (lv_at hl 2 rfl) ?_
              refine lv_dup hx hb dX5_measure_114 rfl ?_
              refine va_get (D := D) (ci := 5) (v := .int c0_6) (C := RX5) (T := TX5) (N := 7) hx hb hts huX5 hown hK hP 0 rfl rfl 6 (by decide) (hts (.fieldLink RX5 30 "VerseColumns$Reach" "ownVerses" "I") (by decide +kernel)) (fun _ h9 => h9) rfl dX5_measure_115 ?_
              refine lv_iload hx hb dX5_measure_118 (lv_at hl 1 rfl) ?_
              refine lv_iload hx hb dX5_measure_120 (lv_at hl 7 rfl) ?_
              refine lv_isub hx hb dX5_measure_122 ?_
              refine lv_iadd hx hb dX5_measure_123 ?_
              refine va_put (D := D) (ci := 5) (v := .int (c0_6 + ((y5 + q2) - y5))) (ty := .int) (C := RX5) (T := TX5) (N := 7) hx hb hts huX5 tyX5 tyX5_ok nmX5 hown hK hP hD hS 0 rfl rfl 6 (by decide) (hts (.fieldLink RX5 30 "VerseColumns$Reach" "ownVerses" "I") (by decide +kernel)) (fun _ h9 => h9) rfl (by decide +kernel) rfl rfl (Nat.le_of_ble_eq_true rfl) dX5_measure_124 (fun H locs hP hD hS => ?_)
              have hP : va_P D vwCl (wRE aE c0_0 c0_1 (c0_2 + (1 : Int32)) c0_3 c0_4 c0_5 (c0_6 + ((y5 + q2) - y5)) ++ wMP cI aM vM0 vM1 vM2) H := hP
              have hD : va_D A (wRE aE c0_0 c0_1 (c0_2 + (1 : Int32)) c0_3 c0_4 c0_5 (c0_6 + ((y5 + q2) - y5)) ++ wMP cI aM vM0 vM1 vM2) := hD
              refine lv_aload_n hx hb dX5_measure_127 rfl (lv_at hl 2 rfl) ?_
              refine lv_iload hx hb dX5_measure_128 (lv_at hl 8 rfl) ?_
              refine lv_iload hx hb dX5_measure_130 (lv_at hl 0 rfl) ?_
              obtain ⟨q8, h7, h⟩ := Option.bind_eq_some_iff.mp h
              refine kcvw (ws' := (wRE aE c0_0 c0_1 (c0_2 + (1 : Int32)) q8.1 q8.2.1 q8.2.2 (c0_6 + ((y5 + q2) - y5)) ++ wMP cI aM vM0 vM1 vM2)) [0] (va_runV (As := [.int y6, .int (y6 + q6)]) (rest := []) ⟨hx, hb, hml, hown, hts⟩ (kX5_takeOther l D cI cC cS aE c0_0 c0_1 (c0_2 + (1 : Int32)) c0_3 c0_4 c0_5 (c0_6 + ((y5 + q2) - y5)) y6 (y6 + q6) H.size h7) (cwV 2 hts gX5_measure_X5_takeOther rfl rfl rfl (by decide +kernel) ⟨Nat.le_of_ble_eq_true rfl, Nat.le_of_ble_eq_true rfl⟩) (kpreV hK hN hP hD [0] rfl (by decide) 5 rfl rfl) rfl rfl hl.1 rfl (lv_room (Nat.le_of_ble_eq_true rfl)) dX5_measure_132 ⟨Nat.le_refl _, Nat.le_refl _⟩) hP hD hS hA rfl (by decide) rfl [1, 0, 0, 0] (by decide +kernel) rfl (fun H locs hP hD hS => ?_)
              exact j135 c0_0 c0_1 (c0_2 + (1 : Int32)) q8.1 q8.2.1 q8.2.2 (c0_6 + ((y5 + q2) - y5)) y2 y3 y4 y7 (y5 + q2) (y6 + q6) _ _ _ h hP hD hS (lv_sub hl [2, 3, 4, 5, 6, 9, 1, 0] rfl)
  unfold pX5_measure at h
  refine lv_aload_n hx hb dX5_measure_0 rfl (lv_at hl 0 rfl) ?_
  refine lv_iload_n hx hb dX5_measure_1 rfl (lv_at hl 3 rfl) ?_
  refine va_put (D := D) (ci := 5) (v := .int i3) (ty := .int) (C := RX5) (T := TX5) (N := 7) hx hb hts huX5 tyX5 tyX5_ok nmX5 hown hK hP hD hS 0 rfl rfl 0 (by decide) (hts (.fieldLink RX5 9 "VerseColumns$Reach" "first" "I") (by decide +kernel)) (fun _ h9 => h9) rfl (by decide +kernel) rfl rfl (Nat.le_of_ble_eq_true rfl) dX5_measure_2 (fun H locs hP hD hS => ?_)
  have hP : va_P D vwCl (wRE aE i3 vE1 vE2 vE3 vE4 vE5 vE6 ++ wMP cI aM vM0 vM1 vM2) H := hP
  have hD : va_D A (wRE aE i3 vE1 vE2 vE3 vE4 vE5 vE6 ++ wMP cI aM vM0 vM1 vM2) := hD
  refine lv_aload_n hx hb dX5_measure_5 rfl (lv_at hl 0 rfl) ?_
  refine lv_iload hx hb dX5_measure_6 (lv_at hl 4 rfl) ?_
  refine va_put (D := D) (ci := 5) (v := .int i4) (ty := .int) (C := RX5) (T := TX5) (N := 7) hx hb hts huX5 tyX5 tyX5_ok nmX5 hown hK hP hD hS 0 rfl rfl 1 (by decide) (hts (.fieldLink RX5 15 "VerseColumns$Reach" "last" "I") (by decide +kernel)) (fun _ h9 => h9) rfl (by decide +kernel) rfl rfl (Nat.le_of_ble_eq_true rfl) dX5_measure_8 (fun H locs hP hD hS => ?_)
  have hP : va_P D vwCl (wRE aE i3 i4 vE2 vE3 vE4 vE5 vE6 ++ wMP cI aM vM0 vM1 vM2) H := hP
  have hD : va_D A (wRE aE i3 i4 vE2 vE3 vE4 vE5 vE6 ++ wMP cI aM vM0 vM1 vM2) := hD
  refine lv_aload_n hx hb dX5_measure_11 rfl (lv_at hl 0 rfl) ?_
  refine lv_iconst (v := (0 : Int32)) hx hb dX5_measure_12 (by decide) ?_
  refine va_put (D := D) (ci := 5) (v := .int (0 : Int32)) (ty := .int) (C := RX5) (T := TX5) (N := 7) hx hb hts huX5 tyX5 tyX5_ok nmX5 hown hK hP hD hS 0 rfl rfl 2 (by decide) (hts (.fieldLink RX5 18 "VerseColumns$Reach" "groups" "I") (by decide +kernel)) (fun _ h9 => h9) rfl (by decide +kernel) rfl rfl (Nat.le_of_ble_eq_true rfl) dX5_measure_13 (fun H locs hP hD hS => ?_)
  have hP : va_P D vwCl (wRE aE i3 i4 (0 : Int32) vE3 vE4 vE5 vE6 ++ wMP cI aM vM0 vM1 vM2) H := hP
  have hD : va_D A (wRE aE i3 i4 (0 : Int32) vE3 vE4 vE5 vE6 ++ wMP cI aM vM0 vM1 vM2) := hD
  refine lv_aload_n hx hb dX5_measure_16 rfl (lv_at hl 0 rfl) ?_
  refine lv_bipush (v := (-5 : Int32)) hx hb dX5_measure_17 (by decide) ?_
  refine va_put (D := D) (ci := 5) (v := .int (-5 : Int32)) (ty := .int) (C := RX5) (T := TX5) (N := 7) hx hb hts huX5 tyX5 tyX5_ok nmX5 hown hK hP hD hS 0 rfl rfl 3 (by decide) (hts (.fieldLink RX5 21 "VerseColumns$Reach" "otherFirst" "I") (by decide +kernel)) (fun _ h9 => h9) rfl (by decide +kernel) rfl rfl (Nat.le_of_ble_eq_true rfl) dX5_measure_19 (fun H locs hP hD hS => ?_)
  have hP : va_P D vwCl (wRE aE i3 i4 (0 : Int32) (-5 : Int32) vE4 vE5 vE6 ++ wMP cI aM vM0 vM1 vM2) H := hP
  have hD : va_D A (wRE aE i3 i4 (0 : Int32) (-5 : Int32) vE4 vE5 vE6 ++ wMP cI aM vM0 vM1 vM2) := hD
  refine lv_aload_n hx hb dX5_measure_22 rfl (lv_at hl 0 rfl) ?_
  refine lv_bipush (v := (-5 : Int32)) hx hb dX5_measure_23 (by decide) ?_
  refine va_put (D := D) (ci := 5) (v := .int (-5 : Int32)) (ty := .int) (C := RX5) (T := TX5) (N := 7) hx hb hts huX5 tyX5 tyX5_ok nmX5 hown hK hP hD hS 0 rfl rfl 4 (by decide) (hts (.fieldLink RX5 24 "VerseColumns$Reach" "otherLast" "I") (by decide +kernel)) (fun _ h9 => h9) rfl (by decide +kernel) rfl rfl (Nat.le_of_ble_eq_true rfl) dX5_measure_25 (fun H locs hP hD hS => ?_)
  have hP : va_P D vwCl (wRE aE i3 i4 (0 : Int32) (-5 : Int32) (-5 : Int32) vE5 vE6 ++ wMP cI aM vM0 vM1 vM2) H := hP
  have hD : va_D A (wRE aE i3 i4 (0 : Int32) (-5 : Int32) (-5 : Int32) vE5 vE6 ++ wMP cI aM vM0 vM1 vM2) := hD
  refine lv_aload_n hx hb dX5_measure_28 rfl (lv_at hl 0 rfl) ?_
  refine lv_iconst (v := (0 : Int32)) hx hb dX5_measure_29 (by decide) ?_
  refine va_put (D := D) (ci := 5) (v := .int (0 : Int32)) (ty := .int) (C := RX5) (T := TX5) (N := 7) hx hb hts huX5 tyX5 tyX5_ok nmX5 hown hK hP hD hS 0 rfl rfl 5 (by decide) (hts (.fieldLink RX5 27 "VerseColumns$Reach" "otherVerses" "I") (by decide +kernel)) (fun _ h9 => h9) rfl (by decide +kernel) rfl rfl (Nat.le_of_ble_eq_true rfl) dX5_measure_30 (fun H locs hP hD hS => ?_)
  have hP : va_P D vwCl (wRE aE i3 i4 (0 : Int32) (-5 : Int32) (-5 : Int32) (0 : Int32) vE6 ++ wMP cI aM vM0 vM1 vM2) H := hP
  have hD : va_D A (wRE aE i3 i4 (0 : Int32) (-5 : Int32) (-5 : Int32) (0 : Int32) vE6 ++ wMP cI aM vM0 vM1 vM2) := hD
  refine lv_aload_n hx hb dX5_measure_33 rfl (lv_at hl 0 rfl) ?_
  refine lv_iconst (v := (0 : Int32)) hx hb dX5_measure_34 (by decide) ?_
  refine va_put (D := D) (ci := 5) (v := .int (0 : Int32)) (ty := .int) (C := RX5) (T := TX5) (N := 7) hx hb hts huX5 tyX5 tyX5_ok nmX5 hown hK hP hD hS 0 rfl rfl 6 (by decide) (hts (.fieldLink RX5 30 "VerseColumns$Reach" "ownVerses" "I") (by decide +kernel)) (fun _ h9 => h9) rfl (by decide +kernel) rfl rfl (Nat.le_of_ble_eq_true rfl) dX5_measure_35 (fun H locs hP hD hS => ?_)
  have hP : va_P D vwCl (wRE aE i3 i4 (0 : Int32) (-5 : Int32) (-5 : Int32) (0 : Int32) (0 : Int32) ++ wMP cI aM vM0 vM1 vM2) H := hP
  have hD : va_D A (wRE aE i3 i4 (0 : Int32) (-5 : Int32) (-5 : Int32) (0 : Int32) (0 : Int32) ++ wMP cI aM vM0 vM1 vM2) := hD
  refine lv_iconst (v := (0 : Int32)) hx hb dX5_measure_38 (by decide) ?_
  refine lv_istore (lv' := [(5, .int (0 : Int32)), (0, .ref aE), (1, .ref aM.1), (2, .int i2), (3, .int i3), (4, .int i4)]) hx hb dX5_measure_39 hl (by decide) rfl (fun ls hl => ?_)
  refine lv_iconst (v := (0 : Int32)) hx hb dX5_measure_41 (by decide) ?_
  refine lv_istore (lv' := [(6, .int (0 : Int32)), (5, .int (0 : Int32)), (0, .ref aE), (1, .ref aM.1), (2, .int i2), (3, .int i3), (4, .int i4)]) hx hb dX5_measure_42 hl (by decide) rfl (fun ls hl => ?_)
  refine lv_iconst (v := (0 : Int32)) hx hb dX5_measure_44 (by decide) ?_
  refine lv_istore (lv' := [(7, .int (0 : Int32)), (6, .int (0 : Int32)), (5, .int (0 : Int32)), (0, .ref aE), (1, .ref aM.1), (2, .int i2), (3, .int i3), (4, .int i4)]) hx hb dX5_measure_45 hl (by decide) rfl (fun ls hl => ?_)
  exact L47 4000 i3 i4 (0 : Int32) (-5 : Int32) (-5 : Int32) (0 : Int32) (0 : Int32) i2 i3 i4 (0 : Int32) (0 : Int32) (0 : Int32) _ _ _ h hP hD hS (lv_sub hl [3, 4, 5, 6, 7, 2, 1, 0] rfl)
