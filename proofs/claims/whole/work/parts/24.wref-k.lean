-- walks: ref (printed by wip/whole/gen)
set_option maxHeartbeats 8000000 in
set_option maxRecDepth 100000 in
theorem kX10_chapter (l : Launch) (D : va_G) (cI cC cS : ClassId) (aD : Nat × Nat × Nat × Nat × Nat × Nat × Nat × Nat × Nat × Nat × Nat) (vD0 : (Nat → Int32)) (vD1 : (Nat → Int32)) (vD2 : Int32) (vD3 : Int32) (vD4 : (Nat → Int32)) (vD5 : Int32) (vD6 : Int32) (vD7 : Int32) (vD8 : Int32) (vD9 : Int32) (vD10 : Int32) (vD11 : (Nat → Int32)) (vD12 : (Nat → Int32)) (vD13 : Int32) (vD14 : Int32) (vD15 : (Nat → Int32)) (vD16 : Int32) (vD17 : Int32) (vD18 : Int32) (vD19 : (Nat → Int32)) (vD20 : (Nat → Int32)) (vD21 : (Nat → Int32)) (vD22 : (Nat → Int32)) (i1 : Int32) (i2 : Int32) (i3 : Int32) (sz : Nat) {q : Int32} (h : pX10_chapter vD0 i1 i2 i3 = some q) : kMi l yX10_chapter wsX10_chapter ({ frames := 2, cells := 0, slots := 0, locals := 46 } : Room) D (kTy cI cC cS) [.ref aD.1, .int i1, .int i2, .int i3] (wMD cC cI aD vD0 vD1 vD2 vD3 vD4 vD5 vD6 vD7 vD8 vD9 vD10 vD11 vD12 vD13 vD14 vD15 vD16 vD17 vD18 vD19 vD20 vD21 vD22) sz q (wMD cC cI aD vD0 vD1 vD2 vD3 vD4 vD5 vD6 vD7 vD8 vD9 vD10 vD11 vD12 vD13 vD14 vD15 vD16 vD17 vD18 vD19 vD20 vD21 vD22) := by
  refine Met.ofW (cc := cX10_chapter) (maxL := 6) (ret := (some .int)) (by decide) rfl ?_
  intro p e s m args below meth c s₁ B hml hv
  obtain ⟨rfl, hsz, hP, hK, hD0, hN⟩ := hv
  have hx := B.exec
  have hb := B.bytes
  have hr := B.returns
  have hts := atoms_spec (ws := wsX10_chapter) B.pre
  have hown : s.vm.findClass RX10 = some m.cls := findClass_of_methodNamed B.named
  have hlocks := B.notSynchronized
  subst hsz
  have hD := hD0.self (sz := s.heap.size)
  generalize hAe : va_A (wMD cC cI aD vD0 vD1 vD2 vD3 vD4 vD5 vD6 vD7 vD8 vD9 vD10 vD11 vD12 vD13 vD14 vD15 vD16 vD17 vD18 vD19 vD20 vD21 vD22) s.heap.size = A at hD ⊢
  have hA : ∀ q : Nat, s.heap.size ≤ q → A q := fun q h => by rw [← hAe]; exact Or.inr h
  have hS : va_S A s.heap s.heap [] := va_S.rf
  have huX10 : ∀ w ∈ u_ws RX10 TX10 23, w ∈ wsX10_chapter := by decide +kernel
  have hl := lv_entry ([.ref aD.1, .int i1, .int i2, .int i3]) (n := 6) (Nat.le_of_ble_eq_true rfl)
  rw [lg_entry_eq]
  generalize (lg_sl ([.ref aD.1, .int i1, .int i2, .int i3]) ++ List.replicate (6 - (lg_sl ([.ref aD.1, .int i1, .int i2, .int i3])).length) Slot.unset).toArray = ls at hl ⊢
  have hl : lv_has ls 6 [(0, .ref aD.1), (1, .int i1), (2, .int i2), (3, .int i3)] := hl
  have L33 : ∀ (nL33 : Nat) (y1 : Int32) (y2 : Int32) (y3 : Int32) (y4 : Int32) (y5 : Int32) (H : Heap) (locs : List Loc) (ls : Array Slot), pX10_chapter_L33 vD0 nL33 y1 y2 y3 y4 y5 = some q → va_P D vwCl (wMD cC cI aD vD0 vD1 vD2 vD3 vD4 vD5 vD6 vD7 vD8 vD9 vD10 vD11 vD12 vD13 vD14 vD15 vD16 vD17 vD18 vD19 vD20 vD21 vD22) H → va_S A s.heap H locs → lv_has ls 6 [(0, .ref aD.1), (1, .int y1), (2, .int y2), (3, .int y3), (4, .int y4), (5, .int y5)] → W p l e ({ frames := 2, cells := 0, slots := 0, locals := 46 } : Room) s m ([.ref aD.1, .int i1, .int i2, .int i3] : List Value).toArray below meth c H locs 0 0 (MQ below (va_Qi (fun (r : Int32) (_ : Unit) => r = q) (fun _ => kPost D (wMD cC cI aD vD0 vD1 vD2 vD3 vD4 vD5 vD6 vD7 vD8 vD9 vD10 vD11 vD12 vD13 vD14 vD15 vD16 vD17 vD18 vD19 vD20 vD21 vD22) A) A) ([.ref aD.1, .int i1, .int i2, .int i3] : List Value).toArray s 0 0 A) (F0 m 33 ls []) := by
    clear h hP hS hl
    intro nL33
    induction nL33 with
    | zero => intro y1 y2 y3 y4 y5 H locs ls h; have h : (none : Option (Int32)) = some q := h; cases h
    | succ nL33 ihL33 =>
      have j72 : ∀ (y1 : Int32) (y2 : Int32) (y3 : Int32) (y5 : Int32) (t0 : Int32) (t1 : Int32) (H : Heap) (locs : List Loc) (ls : Array Slot), pX10_chapter_j72 vD0 (pX10_chapter_L33 vD0 nL33) y1 y2 y3 y5 t0 t1 = some q → va_P D vwCl (wMD cC cI aD vD0 vD1 vD2 vD3 vD4 vD5 vD6 vD7 vD8 vD9 vD10 vD11 vD12 vD13 vD14 vD15 vD16 vD17 vD18 vD19 vD20 vD21 vD22) H → va_S A s.heap H locs → lv_has ls 6 [(0, .ref aD.1), (1, .int y1), (2, .int y2), (3, .int y3), (5, .int y5)] → W p l e ({ frames := 2, cells := 0, slots := 0, locals := 46 } : Room) s m ([.ref aD.1, .int i1, .int i2, .int i3] : List Value).toArray below meth c H locs 0 0 (MQ below (va_Qi (fun (r : Int32) (_ : Unit) => r = q) (fun _ => kPost D (wMD cC cI aD vD0 vD1 vD2 vD3 vD4 vD5 vD6 vD7 vD8 vD9 vD10 vD11 vD12 vD13 vD14 vD15 vD16 vD17 vD18 vD19 vD20 vD21 vD22) A) A) ([.ref aD.1, .int i1, .int i2, .int i3] : List Value).toArray s 0 0 A) (F0 m 72 ls [.int t1, .int t0]) := by
        skip
        intro y1 y2 y3 y5 t0 t1 H locs ls h hP hS hl
        unfold pX10_chapter_j72 at h
        refine lv_iadd hx hb dX10_chapter_72 ?_
        refine lv_istore (lv' := [(4, .int (t0 + t1)), (0, .ref aD.1), (1, .int y1), (2, .int y2), (3, .int y3), (5, .int y5)]) hx hb dX10_chapter_73 hl (by decide) rfl (fun ls hl => ?_)
        refine lv_iinc (v := (y5 + (1 : Int32))) (lv' := [(5, .int (y5 + (1 : Int32))), (4, .int (t0 + t1)), (0, .ref aD.1), (1, .int y1), (2, .int y2), (3, .int y3)]) hx hb dX10_chapter_75 hl (k := 5) rfl rfl (by decide) rfl (fun ls hl => ?_)
        refine lv_goto (tgt := 33) hx hb dX10_chapter_78 (by decide) ?_
        exact ihL33 y1 y2 y3 (t0 + t1) (y5 + (1 : Int32)) _ _ _ h hP hS (lv_sub hl [2, 3, 4, 5, 1, 0] rfl)
      intro y1 y2 y3 y4 y5 H locs ls h hP hS hl
      have h : pX10_chapter_bL33 vD0 (pX10_chapter_L33 vD0 nL33) y1 y2 y3 y4 y5 = some q := h
      unfold pX10_chapter_bL33 at h
      refine lv_iload hx hb dX10_chapter_33 (lv_at hl 5 rfl) ?_
      refine lv_aload_n hx hb dX10_chapter_35 rfl (lv_at hl 0 rfl) ?_
      refine lv_iload_n hx hb dX10_chapter_36 rfl (lv_at hl 1 rfl) ?_
      obtain ⟨q6, h5, h⟩ := Option.bind_eq_some_iff.mp h
      refine kcir [0, 1, 2, 3, 4, 5, 6, 7, 8, 9, 10] (va_runV (As := [.int y1]) (rest := [.int y5]) ⟨hx, hb, hml, hown, hts⟩ (kX10_size l D cI cC cS aD vD0 vD1 vD2 vD3 vD4 vD5 vD6 vD7 vD8 vD9 vD10 vD11 vD12 vD13 vD14 vD15 vD16 vD17 vD18 vD19 vD20 vD21 vD22 y1 H.size h5) (cwV 1 hts gX10_chapter_X10_size rfl rfl rfl (by decide +kernel) ⟨Nat.le_of_ble_eq_true rfl, Nat.le_of_ble_eq_true rfl⟩) (kpreV hK hN hP hD [0, 1, 2, 3, 4, 5, 6, 7, 8, 9, 10] rfl (by decide) 10 rfl rfl) rfl rfl hl.1 rfl (lv_room (Nat.le_of_ble_eq_true rfl)) dX10_chapter_37 ⟨Nat.le_refl _, Nat.le_refl _⟩) hP hD hS hA rfl (fun H locs hP hS => ?_)
      refine lv_icmp_ge (tgt := 81) hx hb dX10_chapter_40 (by decide) (fun g => ?_) (fun g => ?_)
      · rw [if_pos g] at h
        refine lv_iload_n hx hb dX10_chapter_81 rfl (lv_at hl 3 rfl) ?_
        by_cases g0 : y3 = 0
        · rw [if_pos g0] at h
          have e : y3.toInt = 0 := by rw [g0]; rfl
          refine lv_tableIn hx hb dX10_chapter_82 (off := 26) (tgt := 108) (by rw [e]; decide) (by rw [e]; decide) (by rw [e]; rfl) (by decide) ?_
          refine lv_aload_n hx hb dX10_chapter_108 rfl (lv_at hl 0 rfl) ?_
          refine lv_iload_n hx hb dX10_chapter_109 rfl (lv_at hl 1 rfl) ?_
          refine lv_iload_n hx hb dX10_chapter_110 rfl (lv_at hl 2 rfl) ?_
          obtain ⟨q8, h7, h⟩ := Option.bind_eq_some_iff.mp h
          refine kcir [0, 1, 2, 3, 4, 5, 6, 7, 8, 9, 10] (va_runV (As := [.int y1, .int y2]) (rest := []) ⟨hx, hb, hml, hown, hts⟩ (kX10_firstOf l D cI cC cS aD vD0 vD1 vD2 vD3 vD4 vD5 vD6 vD7 vD8 vD9 vD10 vD11 vD12 vD13 vD14 vD15 vD16 vD17 vD18 vD19 vD20 vD21 vD22 y1 y2 H.size h7) (cwV 2 hts gX10_chapter_X10_firstOf rfl rfl rfl (by decide +kernel) ⟨Nat.le_of_ble_eq_true rfl, Nat.le_of_ble_eq_true rfl⟩) (kpreV hK hN hP hD [0, 1, 2, 3, 4, 5, 6, 7, 8, 9, 10] rfl (by decide) 10 rfl rfl) rfl rfl hl.1 rfl (lv_room (Nat.le_of_ble_eq_true rfl)) dX10_chapter_111 ⟨Nat.le_refl _, Nat.le_refl _⟩) hP hD hS hA rfl (fun H locs hP hS => ?_)
          obtain rfl := Option.some.inj h
          exact W.iret (v := q8) hx hb hr (fun t ht hW => ⟨⟨_, (), rfl, rfl, by rw [ht]; exact hP, hD⟩, hS.F ht⟩) hS.2.2 dX10_chapter_114
        · rw [if_neg g0] at h
          by_cases g1 : y3 = 1
          · rw [if_pos g1] at h
            have e : y3.toInt = 1 := by rw [g1]; rfl
            refine lv_tableIn hx hb dX10_chapter_82 (off := 33) (tgt := 115) (by rw [e]; decide) (by rw [e]; decide) (by rw [e]; rfl) (by decide) ?_
            refine lv_aload_n hx hb dX10_chapter_115 rfl (lv_at hl 0 rfl) ?_
            refine lv_iload_n hx hb dX10_chapter_116 rfl (lv_at hl 1 rfl) ?_
            refine lv_iload_n hx hb dX10_chapter_117 rfl (lv_at hl 2 rfl) ?_
            obtain ⟨q10, h9, h⟩ := Option.bind_eq_some_iff.mp h
            refine kcir [0, 1, 2, 3, 4, 5, 6, 7, 8, 9, 10] (va_runV (As := [.int y1, .int y2]) (rest := []) ⟨hx, hb, hml, hown, hts⟩ (kX10_versesOf l D cI cC cS aD vD0 vD1 vD2 vD3 vD4 vD5 vD6 vD7 vD8 vD9 vD10 vD11 vD12 vD13 vD14 vD15 vD16 vD17 vD18 vD19 vD20 vD21 vD22 y1 y2 H.size h9) (cwV 2 hts gX10_chapter_X10_versesOf rfl rfl rfl (by decide +kernel) ⟨Nat.le_of_ble_eq_true rfl, Nat.le_of_ble_eq_true rfl⟩) (kpreV hK hN hP hD [0, 1, 2, 3, 4, 5, 6, 7, 8, 9, 10] rfl (by decide) 10 rfl rfl) rfl rfl hl.1 rfl (lv_room (Nat.le_of_ble_eq_true rfl)) dX10_chapter_118 ⟨Nat.le_refl _, Nat.le_refl _⟩) hP hD hS hA rfl (fun H locs hP hS => ?_)
            obtain rfl := Option.some.inj h
            exact W.iret (v := q10) hx hb hr (fun t ht hW => ⟨⟨_, (), rfl, rfl, by rw [ht]; exact hP, hD⟩, hS.F ht⟩) hS.2.2 dX10_chapter_121
          · rw [if_neg g1] at h
            by_cases g2 : y3 = 2
            · rw [if_pos g2] at h
              have e : y3.toInt = 2 := by rw [g2]; rfl
              refine lv_tableIn hx hb dX10_chapter_82 (off := 40) (tgt := 122) (by rw [e]; decide) (by rw [e]; decide) (by rw [e]; rfl) (by decide) ?_
              refine lv_iload hx hb dX10_chapter_122 (lv_at hl 4 rfl) ?_
              obtain rfl := Option.some.inj h
              exact W.iret (v := y4) hx hb hr (fun t ht hW => ⟨⟨_, (), rfl, rfl, by rw [ht]; exact hP, hD⟩, hS.F ht⟩) hS.2.2 dX10_chapter_124
            · rw [if_neg g2] at h
              have e0 := lv_neT (a := 0) g0 rfl
              have e1 := lv_neT (a := 1) g1 rfl
              have e2 := lv_neT (a := 2) g2 rfl
              refine lv_tableOut hx hb dX10_chapter_82 (tgt := 125) (by omega) (by decide) ?_
              refine lv_bipush (v := (-2 : Int32)) hx hb dX10_chapter_125 (by decide) ?_
              obtain rfl := Option.some.inj h
              exact W.iret (v := (-2 : Int32)) hx hb hr (fun t ht hW => ⟨⟨_, (), rfl, rfl, by rw [ht]; exact hP, hD⟩, hS.F ht⟩) hS.2.2 dX10_chapter_127
      · rw [if_neg g] at h
        refine lv_iload hx hb dX10_chapter_43 (lv_at hl 4 rfl) ?_
        refine lv_aload_n hx hb dX10_chapter_45 rfl (lv_at hl 0 rfl) ?_
        refine lv_iload_n hx hb dX10_chapter_46 rfl (lv_at hl 1 rfl) ?_
        refine lv_iload hx hb dX10_chapter_47 (lv_at hl 5 rfl) ?_
        obtain ⟨q12, h11, h⟩ := Option.bind_eq_some_iff.mp h
        refine kcir [0, 1, 2, 3, 4, 5, 6, 7, 8, 9, 10] (va_runV (As := [.int y1, .int y5]) (rest := [.int y4]) ⟨hx, hb, hml, hown, hts⟩ (kX10_chapterOf l D cI cC cS aD vD0 vD1 vD2 vD3 vD4 vD5 vD6 vD7 vD8 vD9 vD10 vD11 vD12 vD13 vD14 vD15 vD16 vD17 vD18 vD19 vD20 vD21 vD22 y1 y5 H.size h11) (cwV 2 hts gX10_chapter_X10_chapterOf rfl rfl rfl (by decide +kernel) ⟨Nat.le_of_ble_eq_true rfl, Nat.le_of_ble_eq_true rfl⟩) (kpreV hK hN hP hD [0, 1, 2, 3, 4, 5, 6, 7, 8, 9, 10] rfl (by decide) 10 rfl rfl) rfl rfl hl.1 rfl (lv_room (Nat.le_of_ble_eq_true rfl)) dX10_chapter_49 ⟨Nat.le_refl _, Nat.le_refl _⟩) hP hD hS hA rfl (fun H locs hP hS => ?_)
        refine lv_iload_n hx hb dX10_chapter_52 rfl (lv_at hl 2 rfl) ?_
        refine lv_icmp_ne (tgt := 71) hx hb dX10_chapter_53 (by decide) (fun g => ?_) (fun g => ?_)
        · rw [if_neg g] at h
          refine lv_iconst (v := (0 : Int32)) hx hb dX10_chapter_71 (by decide) ?_
          exact j72 y1 y2 y3 y5 y4 (0 : Int32) _ _ _ h hP hS (lv_sub hl [0, 1, 2, 3, 5] rfl)
        · rw [if_pos g] at h
          refine lv_aload_n hx hb dX10_chapter_56 rfl (lv_at hl 0 rfl) ?_
          refine va_get (D := D) (ci := 10) (v := .ref aD.2.1) (C := RX10) (T := TX10) (N := 23) hx hb hts huX10 hown hK hP 0 rfl rfl 0 (by decide) (hts (.fieldLink RX10 7 "VerseColumnsModel" "row" "[I") (by decide +kernel)) (fun _ h9 => h9) rfl dX10_chapter_57 ?_
          refine lv_bipush (v := (60 : Int32)) hx hb dX10_chapter_60 (by decide) ?_
          refine lv_iload_n hx hb dX10_chapter_62 rfl (lv_at hl 1 rfl) ?_
          refine lv_imul hx hb dX10_chapter_63 ?_
          refine lv_iload hx hb dX10_chapter_64 (lv_at hl 5 rfl) ?_
          refine lv_iadd hx hb dX10_chapter_66 ?_
          obtain ⟨g, h⟩ := kif h
          refine va_iald hx hb hK hP 1 0 rfl rfl (kin g) dX10_chapter_67 ?_
          refine lv_goto (tgt := 72) hx hb dX10_chapter_68 (by decide) ?_
          exact j72 y1 y2 y3 y5 y4 (vD0 (((60 : Int32) * y1) + y5).toNatClampNeg) _ _ _ h hP hS (lv_sub hl [0, 1, 2, 3, 5] rfl)
  unfold pX10_chapter at h
  refine lv_iload_n hx hb dX10_chapter_0 rfl (lv_at hl 1 rfl) ?_
  obtain ⟨q2, h1, h⟩ := Option.bind_eq_some_iff.mp h
  refine kcir [] (va_runS (As := [.int i1]) (rest := []) ⟨hx, hb, hml, hown, hts⟩ (kX10_noBook l D cI cC cS i1 s.heap.size h1) (cwS 1 hts gX10_chapter_X10_noBook rfl rfl rfl (by decide +kernel) ⟨Nat.le_of_ble_eq_true rfl, Nat.le_of_ble_eq_true rfl⟩) (kpre hK hN hP hD [] rfl (by decide)) rfl rfl hl.1 rfl (lv_room (Nat.le_of_ble_eq_true rfl)) dX10_chapter_1 ⟨Nat.le_refl _, Nat.le_refl _⟩) hP hD hS hA rfl (fun H locs hP hS => ?_)
  refine lv_if_ne (tgt := 25) hx hb dX10_chapter_4 (by decide) (fun g => ?_) (fun g => ?_)
  · rw [if_neg g] at h
    refine lv_iconst (v := (-1 : Int32)) hx hb dX10_chapter_25 (by decide) ?_
    obtain rfl := Option.some.inj h
    exact W.iret (v := (-1 : Int32)) hx hb hr (fun t ht hW => ⟨⟨_, (), rfl, rfl, by rw [ht]; exact hP, hD⟩, hS.F ht⟩) hS.2.2 dX10_chapter_26
  · rw [if_pos g] at h
    refine lv_iload_n hx hb dX10_chapter_7 rfl (lv_at hl 2 rfl) ?_
    refine lv_iconst (v := (1 : Int32)) hx hb dX10_chapter_8 (by decide) ?_
    refine lv_aload_n hx hb dX10_chapter_9 rfl (lv_at hl 0 rfl) ?_
    refine va_get (D := D) (ci := 10) (v := .ref aD.2.1) (C := RX10) (T := TX10) (N := 23) hx hb hts huX10 hown hK hP 0 rfl rfl 0 (by decide) (hts (.fieldLink RX10 7 "VerseColumnsModel" "row" "[I") (by decide +kernel)) (fun _ h9 => h9) rfl dX10_chapter_10 ?_
    refine lv_sipush (v := (362 : Int32)) hx hb dX10_chapter_13 (by decide) ?_
    refine lv_iload_n hx hb dX10_chapter_16 rfl (lv_at hl 1 rfl) ?_
    refine lv_iadd hx hb dX10_chapter_17 ?_
    obtain ⟨g, h⟩ := kif h
    refine va_iald hx hb hK hP 1 0 rfl rfl (kin g) dX10_chapter_18 ?_
    obtain ⟨q4, h3, h⟩ := Option.bind_eq_some_iff.mp h
    refine kcir [] (va_runS (As := [.int i2, .int (1 : Int32), .int (vD0 ((362 : Int32) + i1).toNatClampNeg)]) (rest := []) ⟨hx, hb, hml, hown, hts⟩ (kX10_in l D cI cC cS i2 (1 : Int32) (vD0 ((362 : Int32) + i1).toNatClampNeg) H.size h3) (cwS 3 hts gX10_chapter_X10_in rfl rfl rfl (by decide +kernel) ⟨Nat.le_of_ble_eq_true rfl, Nat.le_of_ble_eq_true rfl⟩) (kpre hK hN hP hD [] rfl (by decide)) rfl rfl hl.1 rfl (lv_room (Nat.le_of_ble_eq_true rfl)) dX10_chapter_19 ⟨Nat.le_refl _, Nat.le_refl _⟩) hP hD hS hA rfl (fun H locs hP hS => ?_)
    refine lv_if_ne (tgt := 27) hx hb dX10_chapter_22 (by decide) (fun g => ?_) (fun g => ?_)
    · rw [if_neg g] at h
      refine lv_iconst (v := (0 : Int32)) hx hb dX10_chapter_27 (by decide) ?_
      refine lv_istore (lv' := [(4, .int (0 : Int32)), (0, .ref aD.1), (1, .int i1), (2, .int i2), (3, .int i3)]) hx hb dX10_chapter_28 hl (by decide) rfl (fun ls hl => ?_)
      refine lv_iconst (v := (0 : Int32)) hx hb dX10_chapter_30 (by decide) ?_
      refine lv_istore (lv' := [(5, .int (0 : Int32)), (4, .int (0 : Int32)), (0, .ref aD.1), (1, .int i1), (2, .int i2), (3, .int i3)]) hx hb dX10_chapter_31 hl (by decide) rfl (fun ls hl => ?_)
      exact L33 4000 i1 i2 i3 (0 : Int32) (0 : Int32) _ _ _ h hP hS (lv_sub hl [2, 3, 4, 5, 1, 0] rfl)
    · rw [if_pos g] at h
      refine lv_iconst (v := (-1 : Int32)) hx hb dX10_chapter_25 (by decide) ?_
      obtain rfl := Option.some.inj h
      exact W.iret (v := (-1 : Int32)) hx hb hr (fun t ht hW => ⟨⟨_, (), rfl, rfl, by rw [ht]; exact hP, hD⟩, hS.F ht⟩) hS.2.2 dX10_chapter_26
set_option maxHeartbeats 8000000 in
set_option maxRecDepth 100000 in
theorem kX10_verse (l : Launch) (D : va_G) (cI cC cS : ClassId) (aD : Nat × Nat × Nat × Nat × Nat × Nat × Nat × Nat × Nat × Nat × Nat) (vD0 : (Nat → Int32)) (vD1 : (Nat → Int32)) (vD2 : Int32) (vD3 : Int32) (vD4 : (Nat → Int32)) (vD5 : Int32) (vD6 : Int32) (vD7 : Int32) (vD8 : Int32) (vD9 : Int32) (vD10 : Int32) (vD11 : (Nat → Int32)) (vD12 : (Nat → Int32)) (vD13 : Int32) (vD14 : Int32) (vD15 : (Nat → Int32)) (vD16 : Int32) (vD17 : Int32) (vD18 : Int32) (vD19 : (Nat → Int32)) (vD20 : (Nat → Int32)) (vD21 : (Nat → Int32)) (vD22 : (Nat → Int32)) (i1 : Int32) (i2 : Int32) (i3 : Int32) (sz : Nat) {q : Int32} (h : pX10_verse vD0 vD15 i1 i2 i3 = some q) : kMi l yX10_verse wsX10_verse ({ frames := 3, cells := 0, slots := 0, locals := 64 } : Room) D (kTy cI cC cS) [.ref aD.1, .int i1, .int i2, .int i3] (wMD cC cI aD vD0 vD1 vD2 vD3 vD4 vD5 vD6 vD7 vD8 vD9 vD10 vD11 vD12 vD13 vD14 vD15 vD16 vD17 vD18 vD19 vD20 vD21 vD22) sz q (wMD cC cI aD vD0 vD1 vD2 vD3 vD4 vD5 vD6 vD7 vD8 vD9 vD10 vD11 vD12 vD13 vD14 vD15 vD16 vD17 vD18 vD19 vD20 vD21 vD22) := by
  refine Met.ofW (cc := cX10_verse) (maxL := 5) (ret := (some .int)) (by decide) rfl ?_
  intro p e s m args below meth c s₁ B hml hv
  obtain ⟨rfl, hsz, hP, hK, hD0, hN⟩ := hv
  have hx := B.exec
  have hb := B.bytes
  have hr := B.returns
  have hts := atoms_spec (ws := wsX10_verse) B.pre
  have hown : s.vm.findClass RX10 = some m.cls := findClass_of_methodNamed B.named
  have hlocks := B.notSynchronized
  subst hsz
  have hD := hD0.self (sz := s.heap.size)
  generalize hAe : va_A (wMD cC cI aD vD0 vD1 vD2 vD3 vD4 vD5 vD6 vD7 vD8 vD9 vD10 vD11 vD12 vD13 vD14 vD15 vD16 vD17 vD18 vD19 vD20 vD21 vD22) s.heap.size = A at hD ⊢
  have hA : ∀ q : Nat, s.heap.size ≤ q → A q := fun q h => by rw [← hAe]; exact Or.inr h
  have hS : va_S A s.heap s.heap [] := va_S.rf
  have huX10 : ∀ w ∈ u_ws RX10 TX10 23, w ∈ wsX10_verse := by decide +kernel
  have hl := lv_entry ([.ref aD.1, .int i1, .int i2, .int i3]) (n := 5) (Nat.le_of_ble_eq_true rfl)
  rw [lg_entry_eq]
  generalize (lg_sl ([.ref aD.1, .int i1, .int i2, .int i3]) ++ List.replicate (5 - (lg_sl ([.ref aD.1, .int i1, .int i2, .int i3])).length) Slot.unset).toArray = ls at hl ⊢
  have hl : lv_has ls 5 [(0, .ref aD.1), (1, .int i1), (2, .int i2), (3, .int i3)] := hl
  unfold pX10_verse at h
  refine lv_aload_n hx hb dX10_verse_0 rfl (lv_at hl 0 rfl) ?_
  refine lv_iload_n hx hb dX10_verse_1 rfl (lv_at hl 1 rfl) ?_
  refine lv_iload_n hx hb dX10_verse_2 rfl (lv_at hl 2 rfl) ?_
  obtain ⟨q2, h1, h⟩ := Option.bind_eq_some_iff.mp h
  refine kcir [0, 1, 2, 3, 4, 5, 6, 7, 8, 9, 10] (va_runV (As := [.int i1, .int i2]) (rest := []) ⟨hx, hb, hml, hown, hts⟩ (kX10_noVerse l D cI cC cS aD vD0 vD1 vD2 vD3 vD4 vD5 vD6 vD7 vD8 vD9 vD10 vD11 vD12 vD13 vD14 vD15 vD16 vD17 vD18 vD19 vD20 vD21 vD22 i1 i2 s.heap.size h1) (cwV 2 hts gX10_verse_X10_noVerse rfl rfl rfl (by decide +kernel) ⟨Nat.le_of_ble_eq_true rfl, Nat.le_of_ble_eq_true rfl⟩) (kpreV hK hN hP hD [0, 1, 2, 3, 4, 5, 6, 7, 8, 9, 10] rfl (by decide) 10 rfl rfl) rfl rfl hl.1 rfl (lv_room (Nat.le_of_ble_eq_true rfl)) dX10_verse_3 ⟨Nat.le_refl _, Nat.le_refl _⟩) hP hD hS hA rfl (fun H locs hP hS => ?_)
  refine lv_if_eq (tgt := 11) hx hb dX10_verse_6 (by decide) (fun g => ?_) (fun g => ?_)
  · rw [if_pos g] at h
    refine lv_bipush (v := (60 : Int32)) hx hb dX10_verse_11 (by decide) ?_
    refine lv_iload_n hx hb dX10_verse_13 rfl (lv_at hl 1 rfl) ?_
    refine lv_imul hx hb dX10_verse_14 ?_
    refine lv_iload_n hx hb dX10_verse_15 rfl (lv_at hl 2 rfl) ?_
    refine lv_iadd hx hb dX10_verse_16 ?_
    refine lv_istore (lv' := [(4, .int (((60 : Int32) * i1) + i2)), (0, .ref aD.1), (1, .int i1), (2, .int i2), (3, .int i3)]) hx hb dX10_verse_17 hl (by decide) rfl (fun ls hl => ?_)
    refine lv_iload_n hx hb dX10_verse_19 rfl (lv_at hl 4 rfl) ?_
    by_cases g0 : i3 = 0
    · rw [if_pos g0] at h
      have e : i3.toInt = 0 := by rw [g0]; rfl
      refine lv_tableIn hx hb dX10_verse_20 (off := 36) (tgt := 56) (by rw [e]; decide) (by rw [e]; decide) (by rw [e]; rfl) (by decide) ?_
      refine lv_aload_n hx hb dX10_verse_56 rfl (lv_at hl 1 rfl) ?_
      refine lv_iload_n hx hb dX10_verse_57 rfl (lv_at hl 2 rfl) ?_
      refine lv_iload_n hx hb dX10_verse_58 rfl (lv_at hl 3 rfl) ?_
      obtain ⟨q4, h3, h⟩ := Option.bind_eq_some_iff.mp h
      refine kcir [0, 1, 2, 3, 4, 5, 6, 7, 8, 9, 10] (va_runV (As := [.int i1, .int i2]) (rest := []) ⟨hx, hb, hml, hown, hts⟩ (kX10_chapterOf l D cI cC cS aD vD0 vD1 vD2 vD3 vD4 vD5 vD6 vD7 vD8 vD9 vD10 vD11 vD12 vD13 vD14 vD15 vD16 vD17 vD18 vD19 vD20 vD21 vD22 i1 i2 H.size h3) (cwV 2 hts gX10_verse_X10_chapterOf rfl rfl rfl (by decide +kernel) ⟨Nat.le_of_ble_eq_true rfl, Nat.le_of_ble_eq_true rfl⟩) (kpreV hK hN hP hD [0, 1, 2, 3, 4, 5, 6, 7, 8, 9, 10] rfl (by decide) 10 rfl rfl) rfl rfl hl.1 rfl (lv_room (Nat.le_of_ble_eq_true rfl)) dX10_verse_59 ⟨Nat.le_refl _, Nat.le_refl _⟩) hP hD hS hA rfl (fun H locs hP hS => ?_)
      obtain rfl := Option.some.inj h
      exact W.iret (v := q4) hx hb hr (fun t ht hW => ⟨⟨_, (), rfl, rfl, by rw [ht]; exact hP, hD⟩, hS.F ht⟩) hS.2.2 dX10_verse_62
    · rw [if_neg g0] at h
      by_cases g1 : i3 = 1
      · rw [if_pos g1] at h
        have e : i3.toInt = 1 := by rw [g1]; rfl
        refine lv_tableIn hx hb dX10_verse_20 (off := 43) (tgt := 63) (by rw [e]; decide) (by rw [e]; decide) (by rw [e]; rfl) (by decide) ?_
        refine lv_iload_n hx hb dX10_verse_63 rfl (lv_at hl 3 rfl) ?_
        refine lv_aload_n hx hb dX10_verse_64 rfl (lv_at hl 1 rfl) ?_
        refine lv_iload_n hx hb dX10_verse_65 rfl (lv_at hl 2 rfl) ?_
        refine lv_aload_n hx hb dX10_verse_66 rfl (lv_at hl 1 rfl) ?_
        refine lv_iload_n hx hb dX10_verse_67 rfl (lv_at hl 2 rfl) ?_
        refine lv_iload_n hx hb dX10_verse_68 rfl (lv_at hl 3 rfl) ?_
        obtain ⟨q6, h5, h⟩ := Option.bind_eq_some_iff.mp h
        refine kcir [0, 1, 2, 3, 4, 5, 6, 7, 8, 9, 10] (va_runV (As := [.int i1, .int i2]) (rest := [.int i1, .ref aD.1, .int i2]) ⟨hx, hb, hml, hown, hts⟩ (kX10_chapterOf l D cI cC cS aD vD0 vD1 vD2 vD3 vD4 vD5 vD6 vD7 vD8 vD9 vD10 vD11 vD12 vD13 vD14 vD15 vD16 vD17 vD18 vD19 vD20 vD21 vD22 i1 i2 H.size h5) (cwV 2 hts gX10_verse_X10_chapterOf rfl rfl rfl (by decide +kernel) ⟨Nat.le_of_ble_eq_true rfl, Nat.le_of_ble_eq_true rfl⟩) (kpreV hK hN hP hD [0, 1, 2, 3, 4, 5, 6, 7, 8, 9, 10] rfl (by decide) 10 rfl rfl) rfl rfl hl.1 rfl (lv_room (Nat.le_of_ble_eq_true rfl)) dX10_verse_69 ⟨Nat.le_refl _, Nat.le_refl _⟩) hP hD hS hA rfl (fun H locs hP hS => ?_)
        obtain ⟨q8, h7, h⟩ := Option.bind_eq_some_iff.mp h
        refine kcir [0, 1, 2, 3, 4, 5, 6, 7, 8, 9, 10] (va_runV (As := [.int i1, .int q6]) (rest := [.int i2]) ⟨hx, hb, hml, hown, hts⟩ (kX10_firstOf l D cI cC cS aD vD0 vD1 vD2 vD3 vD4 vD5 vD6 vD7 vD8 vD9 vD10 vD11 vD12 vD13 vD14 vD15 vD16 vD17 vD18 vD19 vD20 vD21 vD22 i1 q6 H.size h7) (cwV 2 hts gX10_verse_X10_firstOf rfl rfl rfl (by decide +kernel) ⟨Nat.le_of_ble_eq_true rfl, Nat.le_of_ble_eq_true rfl⟩) (kpreV hK hN hP hD [0, 1, 2, 3, 4, 5, 6, 7, 8, 9, 10] rfl (by decide) 10 rfl rfl) rfl rfl hl.1 rfl (lv_room (Nat.le_of_ble_eq_true rfl)) dX10_verse_72 ⟨Nat.le_refl _, Nat.le_refl _⟩) hP hD hS hA rfl (fun H locs hP hS => ?_)
        refine lv_isub hx hb dX10_verse_75 ?_
        refine lv_iconst (v := (1 : Int32)) hx hb dX10_verse_76 (by decide) ?_
        refine lv_iadd hx hb dX10_verse_77 ?_
        obtain rfl := Option.some.inj h
        exact W.iret (v := ((i2 - q8) + (1 : Int32))) hx hb hr (fun t ht hW => ⟨⟨_, (), rfl, rfl, by rw [ht]; exact hP, hD⟩, hS.F ht⟩) hS.2.2 dX10_verse_78
      · rw [if_neg g1] at h
        by_cases g2 : i3 = 2
        · rw [if_pos g2] at h
          have e : i3.toInt = 2 := by rw [g2]; rfl
          refine lv_tableIn hx hb dX10_verse_20 (off := 59) (tgt := 79) (by rw [e]; decide) (by rw [e]; decide) (by rw [e]; rfl) (by decide) ?_
          refine lv_aload_n hx hb dX10_verse_79 rfl (lv_at hl 1 rfl) ?_
          refine va_get (D := D) (ci := 10) (v := .ref aD.2.1) (C := RX10) (T := TX10) (N := 23) hx hb hts huX10 hown hK hP 0 rfl rfl 0 (by decide) (hts (.fieldLink RX10 7 "VerseColumnsModel" "row" "[I") (by decide +kernel)) (fun _ h9 => h9) rfl dX10_verse_80 ?_
          refine lv_iload hx hb dX10_verse_83 (lv_at hl 0 rfl) ?_
          obtain ⟨g, h⟩ := kif h
          refine va_iald hx hb hK hP 1 0 rfl rfl (kin g) dX10_verse_85 ?_
          obtain rfl := Option.some.inj h
          exact W.iret (v := (vD0 (((60 : Int32) * i1) + i2).toNatClampNeg)) hx hb hr (fun t ht hW => ⟨⟨_, (), rfl, rfl, by rw [ht]; exact hP, hD⟩, hS.F ht⟩) hS.2.2 dX10_verse_86
        · rw [if_neg g2] at h
          by_cases g3 : i3 = 3
          · rw [if_pos g3] at h
            have e : i3.toInt = 3 := by rw [g3]; rfl
            refine lv_tableIn hx hb dX10_verse_20 (off := 67) (tgt := 87) (by rw [e]; decide) (by rw [e]; decide) (by rw [e]; rfl) (by decide) ?_
            refine lv_aload_n hx hb dX10_verse_87 rfl (lv_at hl 1 rfl) ?_
            refine va_get (D := D) (ci := 10) (v := .ref aD.2.1) (C := RX10) (T := TX10) (N := 23) hx hb hts huX10 hown hK hP 0 rfl rfl 0 (by decide) (hts (.fieldLink RX10 7 "VerseColumnsModel" "row" "[I") (by decide +kernel)) (fun _ h9 => h9) rfl dX10_verse_88 ?_
            refine lv_bipush (v := (120 : Int32)) hx hb dX10_verse_91 (by decide) ?_
            refine lv_iload hx hb dX10_verse_93 (lv_at hl 0 rfl) ?_
            refine lv_iadd hx hb dX10_verse_95 ?_
            obtain ⟨g, h⟩ := kif h
            refine va_iald hx hb hK hP 1 0 rfl rfl (kin g) dX10_verse_96 ?_
            obtain rfl := Option.some.inj h
            exact W.iret (v := (vD0 ((120 : Int32) + (((60 : Int32) * i1) + i2)).toNatClampNeg)) hx hb hr (fun t ht hW => ⟨⟨_, (), rfl, rfl, by rw [ht]; exact hP, hD⟩, hS.F ht⟩) hS.2.2 dX10_verse_97
          · rw [if_neg g3] at h
            by_cases g4 : i3 = 4
            · rw [if_pos g4] at h
              have e : i3.toInt = 4 := by rw [g4]; rfl
              refine lv_tableIn hx hb dX10_verse_20 (off := 78) (tgt := 98) (by rw [e]; decide) (by rw [e]; decide) (by rw [e]; rfl) (by decide) ?_
              refine lv_aload_n hx hb dX10_verse_98 rfl (lv_at hl 1 rfl) ?_
              refine lv_iload_n hx hb dX10_verse_99 rfl (lv_at hl 2 rfl) ?_
              refine lv_iload_n hx hb dX10_verse_100 rfl (lv_at hl 3 rfl) ?_
              obtain ⟨q10, h9, h⟩ := Option.bind_eq_some_iff.mp h
              refine kcir [0, 1, 2, 3, 4, 5, 6, 7, 8, 9, 10] (va_runV (As := [.int i1, .int i2]) (rest := []) ⟨hx, hb, hml, hown, hts⟩ (kX10_linesOf l D cI cC cS aD vD0 vD1 vD2 vD3 vD4 vD5 vD6 vD7 vD8 vD9 vD10 vD11 vD12 vD13 vD14 vD15 vD16 vD17 vD18 vD19 vD20 vD21 vD22 i1 i2 H.size h9) (cwV 2 hts gX10_verse_X10_linesOf rfl rfl rfl (by decide +kernel) ⟨Nat.le_of_ble_eq_true rfl, Nat.le_of_ble_eq_true rfl⟩) (kpreV hK hN hP hD [0, 1, 2, 3, 4, 5, 6, 7, 8, 9, 10] rfl (by decide) 10 rfl rfl) rfl rfl hl.1 rfl (lv_room (Nat.le_of_ble_eq_true rfl)) dX10_verse_101 ⟨Nat.le_refl _, Nat.le_refl _⟩) hP hD hS hA rfl (fun H locs hP hS => ?_)
              obtain rfl := Option.some.inj h
              exact W.iret (v := q10) hx hb hr (fun t ht hW => ⟨⟨_, (), rfl, rfl, by rw [ht]; exact hP, hD⟩, hS.F ht⟩) hS.2.2 dX10_verse_104
            · rw [if_neg g4] at h
              have e0 := lv_neT (a := 0) g0 rfl
              have e1 := lv_neT (a := 1) g1 rfl
              have e2 := lv_neT (a := 2) g2 rfl
              have e3 := lv_neT (a := 3) g3 rfl
              have e4 := lv_neT (a := 4) g4 rfl
              refine lv_tableOut hx hb dX10_verse_20 (tgt := 105) (by omega) (by decide) ?_
              refine lv_bipush (v := (-2 : Int32)) hx hb dX10_verse_105 (by decide) ?_
              obtain rfl := Option.some.inj h
              exact W.iret (v := (-2 : Int32)) hx hb hr (fun t ht hW => ⟨⟨_, (), rfl, rfl, by rw [ht]; exact hP, hD⟩, hS.F ht⟩) hS.2.2 dX10_verse_107
  · rw [if_neg g] at h
    refine lv_iconst (v := (-1 : Int32)) hx hb dX10_verse_9 (by decide) ?_
    obtain rfl := Option.some.inj h
    exact W.iret (v := (-1 : Int32)) hx hb hr (fun t ht hW => ⟨⟨_, (), rfl, rfl, by rw [ht]; exact hP, hD⟩, hS.F ht⟩) hS.2.2 dX10_verse_10
set_option maxHeartbeats 8000000 in
set_option maxRecDepth 100000 in
theorem kX10_kind (l : Launch) (D : va_G) (cI cC cS : ClassId) (aD : Nat × Nat × Nat × Nat × Nat × Nat × Nat × Nat × Nat × Nat × Nat) (vD0 : (Nat → Int32)) (vD1 : (Nat → Int32)) (vD2 : Int32) (vD3 : Int32) (vD4 : (Nat → Int32)) (vD5 : Int32) (vD6 : Int32) (vD7 : Int32) (vD8 : Int32) (vD9 : Int32) (vD10 : Int32) (vD11 : (Nat → Int32)) (vD12 : (Nat → Int32)) (vD13 : Int32) (vD14 : Int32) (vD15 : (Nat → Int32)) (vD16 : Int32) (vD17 : Int32) (vD18 : Int32) (vD19 : (Nat → Int32)) (vD20 : (Nat → Int32)) (vD21 : (Nat → Int32)) (vD22 : (Nat → Int32)) (i1 : Int32) (sz : Nat) {q : Int32} (h : pX10_kind vD0 i1 = some q) : kMi l yX10_kind wsX10_kind ({ frames := 1, cells := 0, slots := 0, locals := 22 } : Room) D (kTy cI cC cS) [.ref aD.1, .int i1] (wMD cC cI aD vD0 vD1 vD2 vD3 vD4 vD5 vD6 vD7 vD8 vD9 vD10 vD11 vD12 vD13 vD14 vD15 vD16 vD17 vD18 vD19 vD20 vD21 vD22) sz q (wMD cC cI aD vD0 vD1 vD2 vD3 vD4 vD5 vD6 vD7 vD8 vD9 vD10 vD11 vD12 vD13 vD14 vD15 vD16 vD17 vD18 vD19 vD20 vD21 vD22) := by
  refine Met.ofW (cc := cX10_kind) (maxL := 4) (ret := (some .int)) (by decide) rfl ?_
  intro p e s m args below meth c s₁ B hml hv
  obtain ⟨rfl, hsz, hP, hK, hD0, hN⟩ := hv
  have hx := B.exec
  have hb := B.bytes
  have hr := B.returns
  have hts := atoms_spec (ws := wsX10_kind) B.pre
  have hown : s.vm.findClass RX10 = some m.cls := findClass_of_methodNamed B.named
  have hlocks := B.notSynchronized
  subst hsz
  have hD := hD0.self (sz := s.heap.size)
  generalize hAe : va_A (wMD cC cI aD vD0 vD1 vD2 vD3 vD4 vD5 vD6 vD7 vD8 vD9 vD10 vD11 vD12 vD13 vD14 vD15 vD16 vD17 vD18 vD19 vD20 vD21 vD22) s.heap.size = A at hD ⊢
  have hA : ∀ q : Nat, s.heap.size ≤ q → A q := fun q h => by rw [← hAe]; exact Or.inr h
  have hS : va_S A s.heap s.heap [] := va_S.rf
  have hl := lv_entry ([.ref aD.1, .int i1]) (n := 4) (Nat.le_of_ble_eq_true rfl)
  rw [lg_entry_eq]
  generalize (lg_sl ([.ref aD.1, .int i1]) ++ List.replicate (4 - (lg_sl ([.ref aD.1, .int i1])).length) Slot.unset).toArray = ls at hl ⊢
  have hl : lv_has ls 4 [(0, .ref aD.1), (1, .int i1)] := hl
  unfold pX10_kind at h
  refine lv_aload_n hx hb dX10_kind_0 rfl (lv_at hl 0 rfl) ?_
  refine lv_iload_n hx hb dX10_kind_1 rfl (lv_at hl 1 rfl) ?_
  refine lv_iconst (v := (0 : Int32)) hx hb dX10_kind_2 (by decide) ?_
  obtain ⟨q2, h1, h⟩ := Option.bind_eq_some_iff.mp h
  refine kcir [0, 1, 2, 3, 4, 5, 6, 7, 8, 9, 10] (va_runV (As := [.int i1, .int (0 : Int32)]) (rest := []) ⟨hx, hb, hml, hown, hts⟩ (kX10_has l D cI cC cS aD vD0 vD1 vD2 vD3 vD4 vD5 vD6 vD7 vD8 vD9 vD10 vD11 vD12 vD13 vD14 vD15 vD16 vD17 vD18 vD19 vD20 vD21 vD22 i1 (0 : Int32) s.heap.size h1) (cwV 2 hts gX10_kind_X10_has rfl rfl rfl (by decide +kernel) ⟨Nat.le_of_ble_eq_true rfl, Nat.le_of_ble_eq_true rfl⟩) (kpreV hK hN hP hD [0, 1, 2, 3, 4, 5, 6, 7, 8, 9, 10] rfl (by decide) 10 rfl rfl) rfl rfl hl.1 rfl (lv_room (Nat.le_of_ble_eq_true rfl)) dX10_kind_3 ⟨Nat.le_refl _, Nat.le_refl _⟩) hP hD hS hA rfl (fun H locs hP hS => ?_)
  refine lv_istore_n (lv' := [(2, .int q2), (0, .ref aD.1), (1, .int i1)]) hx hb dX10_kind_6 rfl hl (by decide) rfl (fun ls hl => ?_)
  refine lv_aload_n hx hb dX10_kind_7 rfl (lv_at hl 1 rfl) ?_
  refine lv_iload_n hx hb dX10_kind_8 rfl (lv_at hl 2 rfl) ?_
  refine lv_iconst (v := (1 : Int32)) hx hb dX10_kind_9 (by decide) ?_
  obtain ⟨q4, h3, h⟩ := Option.bind_eq_some_iff.mp h
  refine kcir [0, 1, 2, 3, 4, 5, 6, 7, 8, 9, 10] (va_runV (As := [.int i1, .int (1 : Int32)]) (rest := []) ⟨hx, hb, hml, hown, hts⟩ (kX10_has l D cI cC cS aD vD0 vD1 vD2 vD3 vD4 vD5 vD6 vD7 vD8 vD9 vD10 vD11 vD12 vD13 vD14 vD15 vD16 vD17 vD18 vD19 vD20 vD21 vD22 i1 (1 : Int32) H.size h3) (cwV 2 hts gX10_kind_X10_has rfl rfl rfl (by decide +kernel) ⟨Nat.le_of_ble_eq_true rfl, Nat.le_of_ble_eq_true rfl⟩) (kpreV hK hN hP hD [0, 1, 2, 3, 4, 5, 6, 7, 8, 9, 10] rfl (by decide) 10 rfl rfl) rfl rfl hl.1 rfl (lv_room (Nat.le_of_ble_eq_true rfl)) dX10_kind_10 ⟨Nat.le_refl _, Nat.le_refl _⟩) hP hD hS hA rfl (fun H locs hP hS => ?_)
  refine lv_istore_n (lv' := [(3, .int q4), (2, .int q2), (0, .ref aD.1), (1, .int i1)]) hx hb dX10_kind_13 rfl hl (by decide) rfl (fun ls hl => ?_)
  refine lv_iload_n hx hb dX10_kind_14 rfl (lv_at hl 0 rfl) ?_
  refine lv_if_ne (tgt := 22) hx hb dX10_kind_15 (by decide) (fun g => ?_) (fun g => ?_)
  · rw [if_neg g] at h
    refine lv_iload_n hx hb dX10_kind_22 rfl (lv_at hl 1 rfl) ?_
    refine lv_if_ne (tgt := 30) hx hb dX10_kind_23 (by decide) (fun g => ?_) (fun g => ?_)
    · rw [if_neg g] at h
      refine lv_iload_n hx hb dX10_kind_30 rfl (lv_at hl 1 rfl) ?_
      refine lv_iconst (v := (1 : Int32)) hx hb dX10_kind_31 (by decide) ?_
      refine lv_icmp_ne (tgt := 44) hx hb dX10_kind_32 (by decide) (fun g => ?_) (fun g => ?_)
      · rw [if_neg g] at h
        refine lv_iconst (v := (3 : Int32)) hx hb dX10_kind_44 (by decide) ?_
        obtain rfl := Option.some.inj h
        exact W.iret (v := (3 : Int32)) hx hb hr (fun t ht hW => ⟨⟨_, (), rfl, rfl, by rw [ht]; exact hP, hD⟩, hS.F ht⟩) hS.2.2 dX10_kind_45
      · rw [if_pos g] at h
        refine lv_iload_n hx hb dX10_kind_35 rfl (lv_at hl 0 rfl) ?_
        refine lv_iconst (v := (1 : Int32)) hx hb dX10_kind_36 (by decide) ?_
        refine lv_icmp_ne (tgt := 44) hx hb dX10_kind_37 (by decide) (fun g => ?_) (fun g => ?_)
        · rw [if_neg g] at h
          refine lv_iconst (v := (3 : Int32)) hx hb dX10_kind_44 (by decide) ?_
          obtain rfl := Option.some.inj h
          exact W.iret (v := (3 : Int32)) hx hb hr (fun t ht hW => ⟨⟨_, (), rfl, rfl, by rw [ht]; exact hP, hD⟩, hS.F ht⟩) hS.2.2 dX10_kind_45
        · rw [if_pos g] at h
          refine lv_iconst (v := (0 : Int32)) hx hb dX10_kind_40 (by decide) ?_
          refine lv_goto (tgt := 45) hx hb dX10_kind_41 (by decide) ?_
          obtain rfl := Option.some.inj h
          exact W.iret (v := (0 : Int32)) hx hb hr (fun t ht hW => ⟨⟨_, (), rfl, rfl, by rw [ht]; exact hP, hD⟩, hS.F ht⟩) hS.2.2 dX10_kind_45
    · rw [if_pos g] at h
      refine lv_iconst (v := (2 : Int32)) hx hb dX10_kind_26 (by decide) ?_
      refine lv_goto (tgt := 45) hx hb dX10_kind_27 (by decide) ?_
      obtain rfl := Option.some.inj h
      exact W.iret (v := (2 : Int32)) hx hb hr (fun t ht hW => ⟨⟨_, (), rfl, rfl, by rw [ht]; exact hP, hD⟩, hS.F ht⟩) hS.2.2 dX10_kind_45
  · rw [if_pos g] at h
    refine lv_iconst (v := (1 : Int32)) hx hb dX10_kind_18 (by decide) ?_
    refine lv_goto (tgt := 45) hx hb dX10_kind_19 (by decide) ?_
    obtain rfl := Option.some.inj h
    exact W.iret (v := (1 : Int32)) hx hb hr (fun t ht hW => ⟨⟨_, (), rfl, rfl, by rw [ht]; exact hP, hD⟩, hS.F ht⟩) hS.2.2 dX10_kind_45
set_option maxHeartbeats 8000000 in
set_option maxRecDepth 100000 in
theorem kX10_group (l : Launch) (D : va_G) (cI cC cS : ClassId) (aD : Nat × Nat × Nat × Nat × Nat × Nat × Nat × Nat × Nat × Nat × Nat) (vD0 : (Nat → Int32)) (vD1 : (Nat → Int32)) (vD2 : Int32) (vD3 : Int32) (vD4 : (Nat → Int32)) (vD5 : Int32) (vD6 : Int32) (vD7 : Int32) (vD8 : Int32) (vD9 : Int32) (vD10 : Int32) (vD11 : (Nat → Int32)) (vD12 : (Nat → Int32)) (vD13 : Int32) (vD14 : Int32) (vD15 : (Nat → Int32)) (vD16 : Int32) (vD17 : Int32) (vD18 : Int32) (vD19 : (Nat → Int32)) (vD20 : (Nat → Int32)) (vD21 : (Nat → Int32)) (vD22 : (Nat → Int32)) (i1 : Int32) (i2 : Int32) (sz : Nat) {q : Int32 × Int32 × (Nat → Int32) × (Nat → Int32) × (Nat → Int32) × (Nat → Int32)} (h : pX10_group vD0 vD15 vD16 vD17 vD18 vD19 vD20 vD21 vD22 i1 i2 = some q) : kMi l yX10_group wsX10_group ({ frames := 5, cells := 0, slots := 0, locals := 119 } : Room) D (kTy cI cC cS) [.ref aD.1, .int i1, .int i2] (wMD cC cI aD vD0 vD1 vD2 vD3 vD4 vD5 vD6 vD7 vD8 vD9 vD10 vD11 vD12 vD13 vD14 vD15 vD16 vD17 vD18 vD19 vD20 vD21 vD22) sz q.1 (wMD cC cI aD vD0 vD1 vD2 vD3 vD4 vD5 vD6 vD7 vD8 vD9 vD10 vD11 vD12 vD13 vD14 vD15 vD16 vD17 q.2.1 q.2.2.1 q.2.2.2.1 q.2.2.2.2.1 q.2.2.2.2.2) := by
  refine Met.ofW (cc := cX10_group) (maxL := 3) (ret := (some .int)) (by decide) rfl ?_
  intro p e s m args below meth c s₁ B hml hv
  obtain ⟨rfl, hsz, hP, hK, hD0, hN⟩ := hv
  have hx := B.exec
  have hb := B.bytes
  have hr := B.returns
  have hts := atoms_spec (ws := wsX10_group) B.pre
  have hown : s.vm.findClass RX10 = some m.cls := findClass_of_methodNamed B.named
  have hlocks := B.notSynchronized
  subst hsz
  have hD := hD0.self (sz := s.heap.size)
  generalize hAe : va_A (wMD cC cI aD vD0 vD1 vD2 vD3 vD4 vD5 vD6 vD7 vD8 vD9 vD10 vD11 vD12 vD13 vD14 vD15 vD16 vD17 vD18 vD19 vD20 vD21 vD22) s.heap.size = A at hD ⊢
  have hA : ∀ q : Nat, s.heap.size ≤ q → A q := fun q h => by rw [← hAe]; exact Or.inr h
  have hS : va_S A s.heap s.heap [] := va_S.rf
  have huX10 : ∀ w ∈ u_ws RX10 TX10 23, w ∈ wsX10_group := by decide +kernel
  have hl := lv_entry ([.ref aD.1, .int i1, .int i2]) (n := 3) (Nat.le_of_ble_eq_true rfl)
  rw [lg_entry_eq]
  generalize (lg_sl ([.ref aD.1, .int i1, .int i2]) ++ List.replicate (3 - (lg_sl ([.ref aD.1, .int i1, .int i2])).length) Slot.unset).toArray = ls at hl ⊢
  have hl : lv_has ls 3 [(0, .ref aD.1), (1, .int i1), (2, .int i2)] := hl
  unfold pX10_group at h
  refine lv_aload_n hx hb dX10_group_0 rfl (lv_at hl 0 rfl) ?_
  refine lv_iload_n hx hb dX10_group_1 rfl (lv_at hl 1 rfl) ?_
  obtain ⟨q2, h1, h⟩ := Option.bind_eq_some_iff.mp h
  refine kcir [0, 1, 2, 3, 4, 5, 6, 7, 8, 9, 10] (va_runV (As := [.int i1]) (rest := []) ⟨hx, hb, hml, hown, hts⟩ (kX10_noGroup l D cI cC cS aD vD0 vD1 vD2 vD3 vD4 vD5 vD6 vD7 vD8 vD9 vD10 vD11 vD12 vD13 vD14 vD15 vD16 vD17 vD18 vD19 vD20 vD21 vD22 i1 s.heap.size h1) (cwV 1 hts gX10_group_X10_noGroup rfl rfl rfl (by decide +kernel) ⟨Nat.le_of_ble_eq_true rfl, Nat.le_of_ble_eq_true rfl⟩) (kpreV hK hN hP hD [0, 1, 2, 3, 4, 5, 6, 7, 8, 9, 10] rfl (by decide) 10 rfl rfl) rfl rfl hl.1 rfl (lv_room (Nat.le_of_ble_eq_true rfl)) dX10_group_2 ⟨Nat.le_refl _, Nat.le_refl _⟩) hP hD hS hA rfl (fun H locs hP hS => ?_)
  refine lv_if_eq (tgt := 10) hx hb dX10_group_5 (by decide) (fun g => ?_) (fun g => ?_)
  · rw [if_pos g] at h
    refine lv_aload_n hx hb dX10_group_10 rfl (lv_at hl 0 rfl) ?_
    obtain ⟨q4, h3, h⟩ := Option.bind_eq_some_iff.mp h
    refine kcvw (ws' := (wMD cC cI aD vD0 vD1 vD2 vD3 vD4 vD5 vD6 vD7 vD8 vD9 vD10 vD11 vD12 vD13 vD14 vD15 vD16 vD17 q4.1 q4.2.1 q4.2.2.1 q4.2.2.2.1 q4.2.2.2.2)) [0, 1, 2, 3, 4, 5, 6, 7, 8, 9, 10] (va_runV (As := []) (rest := []) ⟨hx, hb, hml, hown, hts⟩ (kX10_layPages l D cI cC cS aD vD0 vD1 vD2 vD3 vD4 vD5 vD6 vD7 vD8 vD9 vD10 vD11 vD12 vD13 vD14 vD15 vD16 vD17 vD18 vD19 vD20 vD21 vD22 H.size h3) (cwV 0 hts gX10_group_X10_layPages rfl rfl rfl (by decide +kernel) ⟨Nat.le_of_ble_eq_true rfl, Nat.le_of_ble_eq_true rfl⟩) (kpreV hK hN hP hD [0, 1, 2, 3, 4, 5, 6, 7, 8, 9, 10] rfl (by decide) 10 rfl rfl) rfl rfl hl.1 rfl (lv_room (Nat.le_of_ble_eq_true rfl)) dX10_group_11 ⟨Nat.le_refl _, Nat.le_refl _⟩) hP hD hS hA rfl (by decide) rfl [1, 2, 3, 4, 5, 6, 7, 8, 9, 10, 11] (by decide +kernel) rfl (fun H locs hP hD hS => ?_)
    refine lv_iload_n hx hb dX10_group_14 rfl (lv_at hl 2 rfl) ?_
    by_cases g0 : i2 = 0
    · rw [if_pos g0] at h
      have e : i2.toInt = 0 := by rw [g0]; rfl
      refine lv_tableIn hx hb dX10_group_15 (off := 49) (tgt := 64) (by rw [e]; decide) (by rw [e]; decide) (by rw [e]; rfl) (by decide) ?_
      refine lv_aload_n hx hb dX10_group_64 rfl (lv_at hl 0 rfl) ?_
      refine lv_iload_n hx hb dX10_group_65 rfl (lv_at hl 1 rfl) ?_
      obtain ⟨q6, h5, h⟩ := Option.bind_eq_some_iff.mp h
      refine kcir [0, 1, 2, 3, 4, 5, 6, 7, 8, 9, 10] (va_runV (As := [.int i1]) (rest := []) ⟨hx, hb, hml, hown, hts⟩ (kX10_kind l D cI cC cS aD vD0 vD1 vD2 vD3 vD4 vD5 vD6 vD7 vD8 vD9 vD10 vD11 vD12 vD13 vD14 vD15 vD16 vD17 q4.1 q4.2.1 q4.2.2.1 q4.2.2.2.1 q4.2.2.2.2 i1 H.size h5) (cwV 1 hts gX10_group_X10_kind rfl rfl rfl (by decide +kernel) ⟨Nat.le_of_ble_eq_true rfl, Nat.le_of_ble_eq_true rfl⟩) (kpreV hK hN hP hD [0, 1, 2, 3, 4, 5, 6, 7, 8, 9, 10] rfl (by decide) 10 rfl rfl) rfl rfl hl.1 rfl (lv_room (Nat.le_of_ble_eq_true rfl)) dX10_group_66 ⟨Nat.le_refl _, Nat.le_refl _⟩) hP hD hS hA rfl (fun H locs hP hS => ?_)
      obtain rfl := Option.some.inj h
      exact W.iret (v := q6) hx hb hr (fun t ht hW => ⟨⟨_, (), rfl, rfl, by rw [ht]; exact hP, hD⟩, hS.F ht⟩) hS.2.2 dX10_group_69
    · rw [if_neg g0] at h
      by_cases g1 : i2 = 1
      · rw [if_pos g1] at h
        have e : i2.toInt = 1 := by rw [g1]; rfl
        refine lv_tableIn hx hb dX10_group_15 (off := 55) (tgt := 70) (by rw [e]; decide) (by rw [e]; decide) (by rw [e]; rfl) (by decide) ?_
        refine lv_aload_n hx hb dX10_group_70 rfl (lv_at hl 0 rfl) ?_
        refine lv_iload_n hx hb dX10_group_71 rfl (lv_at hl 1 rfl) ?_
        refine lv_iconst (v := (0 : Int32)) hx hb dX10_group_72 (by decide) ?_
        obtain ⟨q8, h7, h⟩ := Option.bind_eq_some_iff.mp h
        refine kcir [0, 1, 2, 3, 4, 5, 6, 7, 8, 9, 10] (va_runV (As := [.int i1, .int (0 : Int32)]) (rest := []) ⟨hx, hb, hml, hown, hts⟩ (kX10_has l D cI cC cS aD vD0 vD1 vD2 vD3 vD4 vD5 vD6 vD7 vD8 vD9 vD10 vD11 vD12 vD13 vD14 vD15 vD16 vD17 q4.1 q4.2.1 q4.2.2.1 q4.2.2.2.1 q4.2.2.2.2 i1 (0 : Int32) H.size h7) (cwV 2 hts gX10_group_X10_has rfl rfl rfl (by decide +kernel) ⟨Nat.le_of_ble_eq_true rfl, Nat.le_of_ble_eq_true rfl⟩) (kpreV hK hN hP hD [0, 1, 2, 3, 4, 5, 6, 7, 8, 9, 10] rfl (by decide) 10 rfl rfl) rfl rfl hl.1 rfl (lv_room (Nat.le_of_ble_eq_true rfl)) dX10_group_73 ⟨Nat.le_refl _, Nat.le_refl _⟩) hP hD hS hA rfl (fun H locs hP hS => ?_)
        refine lv_if_ne (tgt := 84) hx hb dX10_group_76 (by decide) (fun g => ?_) (fun g => ?_)
        · rw [if_neg g] at h
          refine lv_aload_n hx hb dX10_group_84 rfl (lv_at hl 0 rfl) ?_
          refine lv_iload_n hx hb dX10_group_85 rfl (lv_at hl 1 rfl) ?_
          refine lv_iconst (v := (0 : Int32)) hx hb dX10_group_86 (by decide) ?_
          obtain ⟨q10, h9, h⟩ := Option.bind_eq_some_iff.mp h
          refine kcir [0, 1, 2, 3, 4, 5, 6, 7, 8, 9, 10] (va_runV (As := [.int i1, .int (0 : Int32)]) (rest := []) ⟨hx, hb, hml, hown, hts⟩ (kX10_firstIn l D cI cC cS aD vD0 vD1 vD2 vD3 vD4 vD5 vD6 vD7 vD8 vD9 vD10 vD11 vD12 vD13 vD14 vD15 vD16 vD17 q4.1 q4.2.1 q4.2.2.1 q4.2.2.2.1 q4.2.2.2.2 i1 (0 : Int32) H.size h9) (cwV 2 hts gX10_group_X10_firstIn rfl rfl rfl (by decide +kernel) ⟨Nat.le_of_ble_eq_true rfl, Nat.le_of_ble_eq_true rfl⟩) (kpreV hK hN hP hD [0, 1, 2, 3, 4, 5, 6, 7, 8, 9, 10] rfl (by decide) 10 rfl rfl) rfl rfl hl.1 rfl (lv_room (Nat.le_of_ble_eq_true rfl)) dX10_group_87 ⟨Nat.le_refl _, Nat.le_refl _⟩) hP hD hS hA rfl (fun H locs hP hS => ?_)
          obtain rfl := Option.some.inj h
          exact W.iret (v := q10) hx hb hr (fun t ht hW => ⟨⟨_, (), rfl, rfl, by rw [ht]; exact hP, hD⟩, hS.F ht⟩) hS.2.2 dX10_group_90
        · rw [if_pos g] at h
          refine lv_bipush (v := (-5 : Int32)) hx hb dX10_group_79 (by decide) ?_
          refine lv_goto (tgt := 90) hx hb dX10_group_81 (by decide) ?_
          obtain rfl := Option.some.inj h
          exact W.iret (v := (-5 : Int32)) hx hb hr (fun t ht hW => ⟨⟨_, (), rfl, rfl, by rw [ht]; exact hP, hD⟩, hS.F ht⟩) hS.2.2 dX10_group_90
      · rw [if_neg g1] at h
        by_cases g2 : i2 = 2
        · rw [if_pos g2] at h
          have e : i2.toInt = 2 := by rw [g2]; rfl
          refine lv_tableIn hx hb dX10_group_15 (off := 76) (tgt := 91) (by rw [e]; decide) (by rw [e]; decide) (by rw [e]; rfl) (by decide) ?_
          refine lv_aload_n hx hb dX10_group_91 rfl (lv_at hl 0 rfl) ?_
          refine lv_iload_n hx hb dX10_group_92 rfl (lv_at hl 1 rfl) ?_
          refine lv_iconst (v := (0 : Int32)) hx hb dX10_group_93 (by decide) ?_
          obtain ⟨q12, h11, h⟩ := Option.bind_eq_some_iff.mp h
          refine kcir [0, 1, 2, 3, 4, 5, 6, 7, 8, 9, 10] (va_runV (As := [.int i1, .int (0 : Int32)]) (rest := []) ⟨hx, hb, hml, hown, hts⟩ (kX10_has l D cI cC cS aD vD0 vD1 vD2 vD3 vD4 vD5 vD6 vD7 vD8 vD9 vD10 vD11 vD12 vD13 vD14 vD15 vD16 vD17 q4.1 q4.2.1 q4.2.2.1 q4.2.2.2.1 q4.2.2.2.2 i1 (0 : Int32) H.size h11) (cwV 2 hts gX10_group_X10_has rfl rfl rfl (by decide +kernel) ⟨Nat.le_of_ble_eq_true rfl, Nat.le_of_ble_eq_true rfl⟩) (kpreV hK hN hP hD [0, 1, 2, 3, 4, 5, 6, 7, 8, 9, 10] rfl (by decide) 10 rfl rfl) rfl rfl hl.1 rfl (lv_room (Nat.le_of_ble_eq_true rfl)) dX10_group_94 ⟨Nat.le_refl _, Nat.le_refl _⟩) hP hD hS hA rfl (fun H locs hP hS => ?_)
          obtain rfl := Option.some.inj h
          exact W.iret (v := q12) hx hb hr (fun t ht hW => ⟨⟨_, (), rfl, rfl, by rw [ht]; exact hP, hD⟩, hS.F ht⟩) hS.2.2 dX10_group_97
        · rw [if_neg g2] at h
          by_cases g3 : i2 = 3
          · rw [if_pos g3] at h
            have e : i2.toInt = 3 := by rw [g3]; rfl
            refine lv_tableIn hx hb dX10_group_15 (off := 83) (tgt := 98) (by rw [e]; decide) (by rw [e]; decide) (by rw [e]; rfl) (by decide) ?_
            refine lv_aload_n hx hb dX10_group_98 rfl (lv_at hl 0 rfl) ?_
            refine lv_iload_n hx hb dX10_group_99 rfl (lv_at hl 1 rfl) ?_
            refine lv_iconst (v := (1 : Int32)) hx hb dX10_group_100 (by decide) ?_
            obtain ⟨q14, h13, h⟩ := Option.bind_eq_some_iff.mp h
            refine kcir [0, 1, 2, 3, 4, 5, 6, 7, 8, 9, 10] (va_runV (As := [.int i1, .int (1 : Int32)]) (rest := []) ⟨hx, hb, hml, hown, hts⟩ (kX10_has l D cI cC cS aD vD0 vD1 vD2 vD3 vD4 vD5 vD6 vD7 vD8 vD9 vD10 vD11 vD12 vD13 vD14 vD15 vD16 vD17 q4.1 q4.2.1 q4.2.2.1 q4.2.2.2.1 q4.2.2.2.2 i1 (1 : Int32) H.size h13) (cwV 2 hts gX10_group_X10_has rfl rfl rfl (by decide +kernel) ⟨Nat.le_of_ble_eq_true rfl, Nat.le_of_ble_eq_true rfl⟩) (kpreV hK hN hP hD [0, 1, 2, 3, 4, 5, 6, 7, 8, 9, 10] rfl (by decide) 10 rfl rfl) rfl rfl hl.1 rfl (lv_room (Nat.le_of_ble_eq_true rfl)) dX10_group_101 ⟨Nat.le_refl _, Nat.le_refl _⟩) hP hD hS hA rfl (fun H locs hP hS => ?_)
            refine lv_if_ne (tgt := 112) hx hb dX10_group_104 (by decide) (fun g => ?_) (fun g => ?_)
            · rw [if_neg g] at h
              refine lv_aload_n hx hb dX10_group_112 rfl (lv_at hl 0 rfl) ?_
              refine lv_iload_n hx hb dX10_group_113 rfl (lv_at hl 1 rfl) ?_
              refine lv_iconst (v := (1 : Int32)) hx hb dX10_group_114 (by decide) ?_
              obtain ⟨q16, h15, h⟩ := Option.bind_eq_some_iff.mp h
              refine kcir [0, 1, 2, 3, 4, 5, 6, 7, 8, 9, 10] (va_runV (As := [.int i1, .int (1 : Int32)]) (rest := []) ⟨hx, hb, hml, hown, hts⟩ (kX10_firstIn l D cI cC cS aD vD0 vD1 vD2 vD3 vD4 vD5 vD6 vD7 vD8 vD9 vD10 vD11 vD12 vD13 vD14 vD15 vD16 vD17 q4.1 q4.2.1 q4.2.2.1 q4.2.2.2.1 q4.2.2.2.2 i1 (1 : Int32) H.size h15) (cwV 2 hts gX10_group_X10_firstIn rfl rfl rfl (by decide +kernel) ⟨Nat.le_of_ble_eq_true rfl, Nat.le_of_ble_eq_true rfl⟩) (kpreV hK hN hP hD [0, 1, 2, 3, 4, 5, 6, 7, 8, 9, 10] rfl (by decide) 10 rfl rfl) rfl rfl hl.1 rfl (lv_room (Nat.le_of_ble_eq_true rfl)) dX10_group_115 ⟨Nat.le_refl _, Nat.le_refl _⟩) hP hD hS hA rfl (fun H locs hP hS => ?_)
              obtain rfl := Option.some.inj h
              exact W.iret (v := q16) hx hb hr (fun t ht hW => ⟨⟨_, (), rfl, rfl, by rw [ht]; exact hP, hD⟩, hS.F ht⟩) hS.2.2 dX10_group_118
            · rw [if_pos g] at h
              refine lv_bipush (v := (-5 : Int32)) hx hb dX10_group_107 (by decide) ?_
              refine lv_goto (tgt := 118) hx hb dX10_group_109 (by decide) ?_
              obtain rfl := Option.some.inj h
              exact W.iret (v := (-5 : Int32)) hx hb hr (fun t ht hW => ⟨⟨_, (), rfl, rfl, by rw [ht]; exact hP, hD⟩, hS.F ht⟩) hS.2.2 dX10_group_118
          · rw [if_neg g3] at h
            by_cases g4 : i2 = 4
            · rw [if_pos g4] at h
              have e : i2.toInt = 4 := by rw [g4]; rfl
              refine lv_tableIn hx hb dX10_group_15 (off := 104) (tgt := 119) (by rw [e]; decide) (by rw [e]; decide) (by rw [e]; rfl) (by decide) ?_
              refine lv_aload_n hx hb dX10_group_119 rfl (lv_at hl 0 rfl) ?_
              refine lv_iload_n hx hb dX10_group_120 rfl (lv_at hl 1 rfl) ?_
              refine lv_iconst (v := (1 : Int32)) hx hb dX10_group_121 (by decide) ?_
              obtain ⟨q18, h17, h⟩ := Option.bind_eq_some_iff.mp h
              refine kcir [0, 1, 2, 3, 4, 5, 6, 7, 8, 9, 10] (va_runV (As := [.int i1, .int (1 : Int32)]) (rest := []) ⟨hx, hb, hml, hown, hts⟩ (kX10_has l D cI cC cS aD vD0 vD1 vD2 vD3 vD4 vD5 vD6 vD7 vD8 vD9 vD10 vD11 vD12 vD13 vD14 vD15 vD16 vD17 q4.1 q4.2.1 q4.2.2.1 q4.2.2.2.1 q4.2.2.2.2 i1 (1 : Int32) H.size h17) (cwV 2 hts gX10_group_X10_has rfl rfl rfl (by decide +kernel) ⟨Nat.le_of_ble_eq_true rfl, Nat.le_of_ble_eq_true rfl⟩) (kpreV hK hN hP hD [0, 1, 2, 3, 4, 5, 6, 7, 8, 9, 10] rfl (by decide) 10 rfl rfl) rfl rfl hl.1 rfl (lv_room (Nat.le_of_ble_eq_true rfl)) dX10_group_122 ⟨Nat.le_refl _, Nat.le_refl _⟩) hP hD hS hA rfl (fun H locs hP hS => ?_)
              obtain rfl := Option.some.inj h
              exact W.iret (v := q18) hx hb hr (fun t ht hW => ⟨⟨_, (), rfl, rfl, by rw [ht]; exact hP, hD⟩, hS.F ht⟩) hS.2.2 dX10_group_125
            · rw [if_neg g4] at h
              by_cases g5 : i2 = 5
              · rw [if_pos g5] at h
                have e : i2.toInt = 5 := by rw [g5]; rfl
                refine lv_tableIn hx hb dX10_group_15 (off := 111) (tgt := 126) (by rw [e]; decide) (by rw [e]; decide) (by rw [e]; rfl) (by decide) ?_
                refine lv_aload_n hx hb dX10_group_126 rfl (lv_at hl 0 rfl) ?_
                refine lv_iload_n hx hb dX10_group_127 rfl (lv_at hl 1 rfl) ?_
                obtain ⟨q20, h19, h⟩ := Option.bind_eq_some_iff.mp h
                refine kcir [0, 1, 2, 3, 4, 5, 6, 7, 8, 9, 10] (va_runV (As := [.int i1]) (rest := []) ⟨hx, hb, hml, hown, hts⟩ (kX10_heightOf l D cI cC cS aD vD0 vD1 vD2 vD3 vD4 vD5 vD6 vD7 vD8 vD9 vD10 vD11 vD12 vD13 vD14 vD15 vD16 vD17 q4.1 q4.2.1 q4.2.2.1 q4.2.2.2.1 q4.2.2.2.2 i1 H.size h19) (cwV 1 hts gX10_group_X10_heightOf rfl rfl rfl (by decide +kernel) ⟨Nat.le_of_ble_eq_true rfl, Nat.le_of_ble_eq_true rfl⟩) (kpreV hK hN hP hD [0, 1, 2, 3, 4, 5, 6, 7, 8, 9, 10] rfl (by decide) 10 rfl rfl) rfl rfl hl.1 rfl (lv_room (Nat.le_of_ble_eq_true rfl)) dX10_group_128 ⟨Nat.le_refl _, Nat.le_refl _⟩) hP hD hS hA rfl (fun H locs hP hS => ?_)
                obtain rfl := Option.some.inj h
                exact W.iret (v := q20) hx hb hr (fun t ht hW => ⟨⟨_, (), rfl, rfl, by rw [ht]; exact hP, hD⟩, hS.F ht⟩) hS.2.2 dX10_group_131
              · rw [if_neg g5] at h
                by_cases g6 : i2 = 6
                · rw [if_pos g6] at h
                  have e : i2.toInt = 6 := by rw [g6]; rfl
                  refine lv_tableIn hx hb dX10_group_15 (off := 117) (tgt := 132) (by rw [e]; decide) (by rw [e]; decide) (by rw [e]; rfl) (by decide) ?_
                  refine lv_aload_n hx hb dX10_group_132 rfl (lv_at hl 0 rfl) ?_
                  refine va_get (D := D) (ci := 10) (v := .ref aD.2.2.2.2.2.2.2.1) (C := RX10) (T := TX10) (N := 23) hx hb hts huX10 hown hK hP 0 rfl rfl 19 (by decide) (hts (.fieldLink RX10 36 "VerseColumnsModel" "pageOf" "[I") (by decide +kernel)) (fun _ h9 => h9) rfl dX10_group_133 ?_
                  refine lv_iload_n hx hb dX10_group_136 rfl (lv_at hl 1 rfl) ?_
                  obtain ⟨g, h⟩ := kif h
                  refine va_iald hx hb hK hP 7 0 rfl rfl (kin g) dX10_group_137 ?_
                  obtain rfl := Option.some.inj h
                  exact W.iret (v := (q4.2.1 i1.toNatClampNeg)) hx hb hr (fun t ht hW => ⟨⟨_, (), rfl, rfl, by rw [ht]; exact hP, hD⟩, hS.F ht⟩) hS.2.2 dX10_group_138
                · rw [if_neg g6] at h
                  by_cases g7 : i2 = 7
                  · rw [if_pos g7] at h
                    have e : i2.toInt = 7 := by rw [g7]; rfl
                    refine lv_tableIn hx hb dX10_group_15 (off := 124) (tgt := 139) (by rw [e]; decide) (by rw [e]; decide) (by rw [e]; rfl) (by decide) ?_
                    refine lv_aload_n hx hb dX10_group_139 rfl (lv_at hl 0 rfl) ?_
                    refine va_get (D := D) (ci := 10) (v := .ref aD.2.2.2.2.2.2.2.2.1) (C := RX10) (T := TX10) (N := 23) hx hb hts huX10 hown hK hP 0 rfl rfl 20 (by decide) (hts (.fieldLink RX10 39 "VerseColumnsModel" "lineOf" "[I") (by decide +kernel)) (fun _ h9 => h9) rfl dX10_group_140 ?_
                    refine lv_iload_n hx hb dX10_group_143 rfl (lv_at hl 1 rfl) ?_
                    obtain ⟨g, h⟩ := kif h
                    refine va_iald hx hb hK hP 8 0 rfl rfl (kin g) dX10_group_144 ?_
                    obtain rfl := Option.some.inj h
                    exact W.iret (v := (q4.2.2.1 i1.toNatClampNeg)) hx hb hr (fun t ht hW => ⟨⟨_, (), rfl, rfl, by rw [ht]; exact hP, hD⟩, hS.F ht⟩) hS.2.2 dX10_group_145
                  · rw [if_neg g7] at h
                    by_cases g8 : i2 = 8
                    · rw [if_pos g8] at h
                      have e : i2.toInt = 8 := by rw [g8]; rfl
                      refine lv_tableIn hx hb dX10_group_15 (off := 131) (tgt := 146) (by rw [e]; decide) (by rw [e]; decide) (by rw [e]; rfl) (by decide) ?_
                      refine lv_aload_n hx hb dX10_group_146 rfl (lv_at hl 0 rfl) ?_
                      refine lv_iload_n hx hb dX10_group_147 rfl (lv_at hl 1 rfl) ?_
                      obtain ⟨q22, h21, h⟩ := Option.bind_eq_some_iff.mp h
                      refine kcir [0, 1, 2, 3, 4, 5, 6, 7, 8, 9, 10] (va_runV (As := [.int i1]) (rest := []) ⟨hx, hb, hml, hown, hts⟩ (kX10_notesOf l D cI cC cS aD vD0 vD1 vD2 vD3 vD4 vD5 vD6 vD7 vD8 vD9 vD10 vD11 vD12 vD13 vD14 vD15 vD16 vD17 q4.1 q4.2.1 q4.2.2.1 q4.2.2.2.1 q4.2.2.2.2 i1 H.size h21) (cwV 1 hts gX10_group_X10_notesOf rfl rfl rfl (by decide +kernel) ⟨Nat.le_of_ble_eq_true rfl, Nat.le_of_ble_eq_true rfl⟩) (kpreV hK hN hP hD [0, 1, 2, 3, 4, 5, 6, 7, 8, 9, 10] rfl (by decide) 10 rfl rfl) rfl rfl hl.1 rfl (lv_room (Nat.le_of_ble_eq_true rfl)) dX10_group_148 ⟨Nat.le_refl _, Nat.le_refl _⟩) hP hD hS hA rfl (fun H locs hP hS => ?_)
                      obtain rfl := Option.some.inj h
                      exact W.iret (v := q22) hx hb hr (fun t ht hW => ⟨⟨_, (), rfl, rfl, by rw [ht]; exact hP, hD⟩, hS.F ht⟩) hS.2.2 dX10_group_151
                    · rw [if_neg g8] at h
                      have e0 := lv_neT (a := 0) g0 rfl
                      have e1 := lv_neT (a := 1) g1 rfl
                      have e2 := lv_neT (a := 2) g2 rfl
                      have e3 := lv_neT (a := 3) g3 rfl
                      have e4 := lv_neT (a := 4) g4 rfl
                      have e5 := lv_neT (a := 5) g5 rfl
                      have e6 := lv_neT (a := 6) g6 rfl
                      have e7 := lv_neT (a := 7) g7 rfl
                      have e8 := lv_neT (a := 8) g8 rfl
                      refine lv_tableOut hx hb dX10_group_15 (tgt := 152) (by omega) (by decide) ?_
                      refine lv_bipush (v := (-2 : Int32)) hx hb dX10_group_152 (by decide) ?_
                      obtain rfl := Option.some.inj h
                      exact W.iret (v := (-2 : Int32)) hx hb hr (fun t ht hW => ⟨⟨_, (), rfl, rfl, by rw [ht]; exact hP, hD⟩, hS.F ht⟩) hS.2.2 dX10_group_154
  · rw [if_neg g] at h
    refine lv_iconst (v := (-1 : Int32)) hx hb dX10_group_8 (by decide) ?_
    obtain rfl := Option.some.inj h
    exact W.iret (v := (-1 : Int32)) hx hb hr (fun t ht hW => ⟨⟨_, (), rfl, rfl, by rw [ht]; exact hP, hD⟩, hS.F ht⟩) hS.2.2 dX10_group_9
