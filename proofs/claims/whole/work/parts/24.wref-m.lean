-- walks: ref (printed by wip/whole/gen)
set_option maxHeartbeats 8000000 in
set_option maxRecDepth 100000 in
theorem kX10_readReference (l : Launch) (D : va_G) (cI cC cS : ClassId) (aD : Nat × Nat × Nat × Nat × Nat × Nat × Nat × Nat × Nat × Nat × Nat) (vD0 : (Nat → Int32)) (vD1 : (Nat → Int32)) (vD2 : Int32) (vD3 : Int32) (vD4 : (Nat → Int32)) (vD5 : Int32) (vD6 : Int32) (vD7 : Int32) (vD8 : Int32) (vD9 : Int32) (vD10 : Int32) (vD11 : (Nat → Int32)) (vD12 : (Nat → Int32)) (vD13 : Int32) (vD14 : Int32) (vD15 : (Nat → Int32)) (vD16 : Int32) (vD17 : Int32) (vD18 : Int32) (vD19 : (Nat → Int32)) (vD20 : (Nat → Int32)) (vD21 : (Nat → Int32)) (vD22 : (Nat → Int32)) (i1 : Int32) (sz : Nat) {q : Int32 × Int32 × Int32 × Int32 × Int32} (h : pX10_readReference vD0 vD3 vD4 vD13 vD14 i1 = some q) : kMv l yX10_readReference wsX10_readReference ({ frames := 2, cells := 0, slots := 0, locals := 46 } : Room) D (kTy cI cC cS) [.ref aD.1, .int i1] (wMD cC cI aD vD0 vD1 vD2 vD3 vD4 vD5 vD6 vD7 vD8 vD9 vD10 vD11 vD12 vD13 vD14 vD15 vD16 vD17 vD18 vD19 vD20 vD21 vD22) sz (wMD cC cI aD vD0 vD1 vD2 vD3 vD4 q.1 q.2.1 q.2.2.1 vD8 vD9 vD10 vD11 vD12 q.2.2.2.1 q.2.2.2.2 vD15 vD16 vD17 vD18 vD19 vD20 vD21 vD22) := by
  refine Met.ofW (cc := cX10_readReference) (maxL := 6) (ret := none) (by decide) rfl ?_
  intro p e s m args below meth c s₁ B hml hv
  obtain ⟨rfl, hsz, hP, hK, hD0, hN⟩ := hv
  have hx := B.exec
  have hb := B.bytes
  have hr := B.returns
  have hts := atoms_spec (ws := wsX10_readReference) B.pre
  have hown : s.vm.findClass RX10 = some m.cls := findClass_of_methodNamed B.named
  have hlocks := B.notSynchronized
  subst hsz
  have hD := hD0.self (sz := s.heap.size)
  generalize hAe : va_A (wMD cC cI aD vD0 vD1 vD2 vD3 vD4 vD5 vD6 vD7 vD8 vD9 vD10 vD11 vD12 vD13 vD14 vD15 vD16 vD17 vD18 vD19 vD20 vD21 vD22) s.heap.size = A at hD ⊢
  have hA : ∀ q : Nat, s.heap.size ≤ q → A q := fun q h => by rw [← hAe]; exact Or.inr h
  have hS : va_S A s.heap s.heap [] := va_S.rf
  have huX10 : ∀ w ∈ u_ws RX10 TX10 23, w ∈ wsX10_readReference := by decide +kernel
  have hl := lv_entry ([.ref aD.1, .int i1]) (n := 6) (Nat.le_of_ble_eq_true rfl)
  rw [lg_entry_eq]
  generalize (lg_sl ([.ref aD.1, .int i1]) ++ List.replicate (6 - (lg_sl ([.ref aD.1, .int i1])).length) Slot.unset).toArray = ls at hl ⊢
  have hl : lv_has ls 6 [(0, .ref aD.1), (1, .int i1)] := hl
  have j319 : ∀ (c0_5 : Int32) (c0_6 : Int32) (c0_7 : Int32) (c0_13 : Int32) (c0_14 : Int32) (H : Heap) (locs : List Loc) (ls : Array Slot), pX10_readReference_j319 vD0 vD3 vD4 c0_5 c0_6 c0_7 c0_13 c0_14 = some q → va_P D vwCl (wMD cC cI aD vD0 vD1 vD2 vD3 vD4 c0_5 c0_6 c0_7 vD8 vD9 vD10 vD11 vD12 c0_13 c0_14 vD15 vD16 vD17 vD18 vD19 vD20 vD21 vD22) H → va_D A (wMD cC cI aD vD0 vD1 vD2 vD3 vD4 c0_5 c0_6 c0_7 vD8 vD9 vD10 vD11 vD12 c0_13 c0_14 vD15 vD16 vD17 vD18 vD19 vD20 vD21 vD22) → va_S A s.heap H locs → lv_has ls 6 [(0, .ref aD.1)] → W p l e ({ frames := 2, cells := 0, slots := 0, locals := 46 } : Room) s m ([.ref aD.1, .int i1] : List Value).toArray below meth c H locs 0 0 (MQ below (va_Qv (fun (_ : Unit) => True) (fun _ => kPost D (wMD cC cI aD vD0 vD1 vD2 vD3 vD4 q.1 q.2.1 q.2.2.1 vD8 vD9 vD10 vD11 vD12 q.2.2.2.1 q.2.2.2.2 vD15 vD16 vD17 vD18 vD19 vD20 vD21 vD22) A) A) ([.ref aD.1, .int i1] : List Value).toArray s 0 0 A) (F0 m 319 ls []) := by
    clear h hP hD hS hl
    intro c0_5 c0_6 c0_7 c0_13 c0_14 H locs ls h hP hD hS hl
    unfold pX10_readReference_j319 at h
    refine lv_aload_n hx hb dX10_readReference_319 rfl (lv_at hl 0 rfl) ?_
    refine lv_aload_n hx hb dX10_readReference_320 rfl (lv_at hl 0 rfl) ?_
    refine va_get (D := D) (ci := 10) (v := .int c0_6) (C := RX10) (T := TX10) (N := 23) hx hb hts huX10 hown hK hP 0 rfl rfl 6 (by decide) (hts (.fieldLink RX10 109 "VerseColumnsModel" "isGood" "Z") (by decide +kernel)) (fun _ h9 => h9) rfl dX10_readReference_321 ?_
    refine lv_if_eq (tgt := 342) hx hb dX10_readReference_324 (by decide) (fun g => ?_) (fun g => ?_)
    · rw [if_pos g] at h
      refine lv_iconst (v := (0 : Int32)) hx hb dX10_readReference_342 (by decide) ?_
      refine va_put (D := D) (ci := 10) (v := .int (0 : Int32)) (ty := .boolean) (C := RX10) (T := TX10) (N := 23) hx hb hts huX10 tyX10 tyX10_ok nmX10 hown hK hP hD hS 0 rfl rfl 6 (by decide) (hts (.fieldLink RX10 109 "VerseColumnsModel" "isGood" "Z") (by decide +kernel)) (fun _ h9 => h9) rfl (by decide +kernel) rfl rfl (Nat.le_of_ble_eq_true rfl) dX10_readReference_343 (fun H locs hP hD hS => ?_)
      have hP : va_P D vwCl (wMD cC cI aD vD0 vD1 vD2 vD3 vD4 c0_5 (0 : Int32) c0_7 vD8 vD9 vD10 vD11 vD12 c0_13 c0_14 vD15 vD16 vD17 vD18 vD19 vD20 vD21 vD22) H := hP
      have hD : va_D A (wMD cC cI aD vD0 vD1 vD2 vD3 vD4 c0_5 (0 : Int32) c0_7 vD8 vD9 vD10 vD11 vD12 c0_13 c0_14 vD15 vD16 vD17 vD18 vD19 vD20 vD21 vD22) := hD
      obtain rfl := Option.some.inj h
      exact W.vret hx hb hr (fun t ht hW => ⟨⟨(), rfl, trivial, by rw [ht]; exact hP, hD⟩, hS.F ht⟩) hS.2.2 dX10_readReference_346
    · rw [if_neg g] at h
      refine lv_aload_n hx hb dX10_readReference_327 rfl (lv_at hl 0 rfl) ?_
      refine va_get (D := D) (ci := 10) (v := .int c0_5) (C := RX10) (T := TX10) (N := 23) hx hb hts huX10 hown hK hP 0 rfl rfl 5 (by decide) (hts (.fieldLink RX10 103 "VerseColumnsModel" "place" "I") (by decide +kernel)) (fun _ h9 => h9) rfl dX10_readReference_328 ?_
      refine lv_aload_n hx hb dX10_readReference_331 rfl (lv_at hl 0 rfl) ?_
      refine va_get (D := D) (ci := 10) (v := .int vD3) (C := RX10) (T := TX10) (N := 23) hx hb hts huX10 hown hK hP 0 rfl rfl 3 (by decide) (hts (.fieldLink RX10 100 "VerseColumnsModel" "typed" "I") (by decide +kernel)) (fun _ h9 => h9) rfl dX10_readReference_332 ?_
      refine lv_icmp_ne (tgt := 342) hx hb dX10_readReference_335 (by decide) (fun g => ?_) (fun g => ?_)
      · rw [if_neg g] at h
        refine lv_iconst (v := (0 : Int32)) hx hb dX10_readReference_342 (by decide) ?_
        refine va_put (D := D) (ci := 10) (v := .int (0 : Int32)) (ty := .boolean) (C := RX10) (T := TX10) (N := 23) hx hb hts huX10 tyX10 tyX10_ok nmX10 hown hK hP hD hS 0 rfl rfl 6 (by decide) (hts (.fieldLink RX10 109 "VerseColumnsModel" "isGood" "Z") (by decide +kernel)) (fun _ h9 => h9) rfl (by decide +kernel) rfl rfl (Nat.le_of_ble_eq_true rfl) dX10_readReference_343 (fun H locs hP hD hS => ?_)
        have hP : va_P D vwCl (wMD cC cI aD vD0 vD1 vD2 vD3 vD4 c0_5 (0 : Int32) c0_7 vD8 vD9 vD10 vD11 vD12 c0_13 c0_14 vD15 vD16 vD17 vD18 vD19 vD20 vD21 vD22) H := hP
        have hD : va_D A (wMD cC cI aD vD0 vD1 vD2 vD3 vD4 c0_5 (0 : Int32) c0_7 vD8 vD9 vD10 vD11 vD12 c0_13 c0_14 vD15 vD16 vD17 vD18 vD19 vD20 vD21 vD22) := hD
        obtain rfl := Option.some.inj h
        exact W.vret hx hb hr (fun t ht hW => ⟨⟨(), rfl, trivial, by rw [ht]; exact hP, hD⟩, hS.F ht⟩) hS.2.2 dX10_readReference_346
      · rw [if_pos g] at h
        refine lv_iconst (v := (1 : Int32)) hx hb dX10_readReference_338 (by decide) ?_
        refine lv_goto (tgt := 343) hx hb dX10_readReference_339 (by decide) ?_
        refine va_put (D := D) (ci := 10) (v := .int (1 : Int32)) (ty := .boolean) (C := RX10) (T := TX10) (N := 23) hx hb hts huX10 tyX10 tyX10_ok nmX10 hown hK hP hD hS 0 rfl rfl 6 (by decide) (hts (.fieldLink RX10 109 "VerseColumnsModel" "isGood" "Z") (by decide +kernel)) (fun _ h9 => h9) rfl (by decide +kernel) rfl rfl (Nat.le_of_ble_eq_true rfl) dX10_readReference_343 (fun H locs hP hD hS => ?_)
        have hP : va_P D vwCl (wMD cC cI aD vD0 vD1 vD2 vD3 vD4 c0_5 (1 : Int32) c0_7 vD8 vD9 vD10 vD11 vD12 c0_13 c0_14 vD15 vD16 vD17 vD18 vD19 vD20 vD21 vD22) H := hP
        have hD : va_D A (wMD cC cI aD vD0 vD1 vD2 vD3 vD4 c0_5 (1 : Int32) c0_7 vD8 vD9 vD10 vD11 vD12 c0_13 c0_14 vD15 vD16 vD17 vD18 vD19 vD20 vD21 vD22) := hD
        obtain rfl := Option.some.inj h
        exact W.vret hx hb hr (fun t ht hW => ⟨⟨(), rfl, trivial, by rw [ht]; exact hP, hD⟩, hS.F ht⟩) hS.2.2 dX10_readReference_346
  have j316 : ∀ (c0_5 : Int32) (c0_6 : Int32) (c0_7 : Int32) (c0_13 : Int32) (c0_14 : Int32) (t1 : Int32) (H : Heap) (locs : List Loc) (ls : Array Slot), pX10_readReference_j316 vD0 vD3 vD4 c0_5 c0_6 c0_7 c0_13 c0_14 t1 = some q → va_P D vwCl (wMD cC cI aD vD0 vD1 vD2 vD3 vD4 c0_5 c0_6 c0_7 vD8 vD9 vD10 vD11 vD12 c0_13 c0_14 vD15 vD16 vD17 vD18 vD19 vD20 vD21 vD22) H → va_D A (wMD cC cI aD vD0 vD1 vD2 vD3 vD4 c0_5 c0_6 c0_7 vD8 vD9 vD10 vD11 vD12 c0_13 c0_14 vD15 vD16 vD17 vD18 vD19 vD20 vD21 vD22) → va_S A s.heap H locs → lv_has ls 6 [(0, .ref aD.1)] → W p l e ({ frames := 2, cells := 0, slots := 0, locals := 46 } : Room) s m ([.ref aD.1, .int i1] : List Value).toArray below meth c H locs 0 0 (MQ below (va_Qv (fun (_ : Unit) => True) (fun _ => kPost D (wMD cC cI aD vD0 vD1 vD2 vD3 vD4 q.1 q.2.1 q.2.2.1 vD8 vD9 vD10 vD11 vD12 q.2.2.2.1 q.2.2.2.2 vD15 vD16 vD17 vD18 vD19 vD20 vD21 vD22) A) A) ([.ref aD.1, .int i1] : List Value).toArray s 0 0 A) (F0 m 316 ls [.int t1, .ref aD.1]) := by
    clear h hP hD hS hl
    intro c0_5 c0_6 c0_7 c0_13 c0_14 t1 H locs ls h hP hD hS hl
    unfold pX10_readReference_j316 at h
    refine va_put (D := D) (ci := 10) (v := .int t1) (ty := .int) (C := RX10) (T := TX10) (N := 23) hx hb hts huX10 tyX10 tyX10_ok nmX10 hown hK hP hD hS 0 rfl rfl 14 (by decide) (hts (.fieldLink RX10 152 "VerseColumnsModel" "referTo" "I") (by decide +kernel)) (fun _ h9 => h9) rfl (by decide +kernel) rfl rfl (Nat.le_of_ble_eq_true rfl) dX10_readReference_316 (fun H locs hP hD hS => ?_)
    have hP : va_P D vwCl (wMD cC cI aD vD0 vD1 vD2 vD3 vD4 c0_5 c0_6 c0_7 vD8 vD9 vD10 vD11 vD12 c0_13 t1 vD15 vD16 vD17 vD18 vD19 vD20 vD21 vD22) H := hP
    have hD : va_D A (wMD cC cI aD vD0 vD1 vD2 vD3 vD4 c0_5 c0_6 c0_7 vD8 vD9 vD10 vD11 vD12 c0_13 t1 vD15 vD16 vD17 vD18 vD19 vD20 vD21 vD22) := hD
    exact j319 c0_5 c0_6 c0_7 c0_13 t1 _ _ _ h hP hD hS (lv_sub hl [0] rfl)
  have j289 : ∀ (c0_5 : Int32) (c0_6 : Int32) (c0_7 : Int32) (c0_13 : Int32) (c0_14 : Int32) (y1 : Int32) (y2 : Int32) (y4 : Int32) (t1 : Int32) (H : Heap) (locs : List Loc) (ls : Array Slot), pX10_readReference_j289 vD0 vD3 vD4 c0_5 c0_6 c0_7 c0_13 c0_14 y1 y2 y4 t1 = some q → va_P D vwCl (wMD cC cI aD vD0 vD1 vD2 vD3 vD4 c0_5 c0_6 c0_7 vD8 vD9 vD10 vD11 vD12 c0_13 c0_14 vD15 vD16 vD17 vD18 vD19 vD20 vD21 vD22) H → va_D A (wMD cC cI aD vD0 vD1 vD2 vD3 vD4 c0_5 c0_6 c0_7 vD8 vD9 vD10 vD11 vD12 c0_13 c0_14 vD15 vD16 vD17 vD18 vD19 vD20 vD21 vD22) → va_S A s.heap H locs → lv_has ls 6 [(0, .ref aD.1), (1, .int y1), (2, .int y2), (4, .int y4)] → W p l e ({ frames := 2, cells := 0, slots := 0, locals := 46 } : Room) s m ([.ref aD.1, .int i1] : List Value).toArray below meth c H locs 0 0 (MQ below (va_Qv (fun (_ : Unit) => True) (fun _ => kPost D (wMD cC cI aD vD0 vD1 vD2 vD3 vD4 q.1 q.2.1 q.2.2.1 vD8 vD9 vD10 vD11 vD12 q.2.2.2.1 q.2.2.2.2 vD15 vD16 vD17 vD18 vD19 vD20 vD21 vD22) A) A) ([.ref aD.1, .int i1] : List Value).toArray s 0 0 A) (F0 m 289 ls [.int t1, .ref aD.1]) := by
    clear h hP hD hS hl
    intro c0_5 c0_6 c0_7 c0_13 c0_14 y1 y2 y4 t1 H locs ls h hP hD hS hl
    unfold pX10_readReference_j289 at h
    obtain ⟨q16, h15, h⟩ := Option.bind_eq_some_iff.mp h
    refine kcvw (ws' := (wMD cC cI aD vD0 vD1 vD2 vD3 vD4 q16.1 q16.2 c0_7 vD8 vD9 vD10 vD11 vD12 c0_13 c0_14 vD15 vD16 vD17 vD18 vD19 vD20 vD21 vD22)) [0, 1, 2, 3, 4, 5, 6, 7, 8, 9, 10] (va_runV (As := [.int t1]) (rest := []) ⟨hx, hb, hml, hown, hts⟩ (kX10_needs l D cI cC cS aD vD0 vD1 vD2 vD3 vD4 c0_5 c0_6 c0_7 vD8 vD9 vD10 vD11 vD12 c0_13 c0_14 vD15 vD16 vD17 vD18 vD19 vD20 vD21 vD22 t1 H.size h15) (cwV 1 hts gX10_readReference_X10_needs rfl rfl rfl (by decide +kernel) ⟨Nat.le_of_ble_eq_true rfl, Nat.le_of_ble_eq_true rfl⟩) (kpreV hK hN hP hD [0, 1, 2, 3, 4, 5, 6, 7, 8, 9, 10] rfl (by decide) 10 rfl rfl) rfl rfl hl.1 rfl (lv_room (Nat.le_of_ble_eq_true rfl)) dX10_readReference_289 ⟨Nat.le_refl _, Nat.le_refl _⟩) hP hD hS hA rfl (by decide) rfl [1, 2, 3, 4, 5, 6, 7, 8, 9, 10, 11] (by decide +kernel) rfl (fun H locs hP hD hS => ?_)
    refine lv_aload_n hx hb dX10_readReference_292 rfl (lv_at hl 0 rfl) ?_
    refine lv_aload_n hx hb dX10_readReference_293 rfl (lv_at hl 0 rfl) ?_
    refine va_get (D := D) (ci := 10) (v := .int q16.2) (C := RX10) (T := TX10) (N := 23) hx hb hts huX10 hown hK hP 0 rfl rfl 6 (by decide) (hts (.fieldLink RX10 109 "VerseColumnsModel" "isGood" "Z") (by decide +kernel)) (fun _ h9 => h9) rfl dX10_readReference_294 ?_
    refine lv_if_eq (tgt := 314) hx hb dX10_readReference_297 (by decide) (fun g => ?_) (fun g => ?_)
    · rw [if_pos g] at h
      refine lv_bipush (v := (-5 : Int32)) hx hb dX10_readReference_314 (by decide) ?_
      exact j316 q16.1 q16.2 c0_7 c0_13 c0_14 (-5 : Int32) _ _ _ h hP hD hS (lv_sub hl [0] rfl)
    · rw [if_neg g] at h
      refine lv_aload_n hx hb dX10_readReference_300 rfl (lv_at hl 0 rfl) ?_
      refine lv_iload_n hx hb dX10_readReference_301 rfl (lv_at hl 1 rfl) ?_
      refine lv_iload_n hx hb dX10_readReference_302 rfl (lv_at hl 2 rfl) ?_
      obtain ⟨q18, h17, h⟩ := Option.bind_eq_some_iff.mp h
      refine kcir [0, 1, 2, 3, 4, 5, 6, 7, 8, 9, 10] (va_runV (As := [.int y1, .int y2]) (rest := [.ref aD.1]) ⟨hx, hb, hml, hown, hts⟩ (kX10_firstOf l D cI cC cS aD vD0 vD1 vD2 vD3 vD4 q16.1 q16.2 c0_7 vD8 vD9 vD10 vD11 vD12 c0_13 c0_14 vD15 vD16 vD17 vD18 vD19 vD20 vD21 vD22 y1 y2 H.size h17) (cwV 2 hts gX10_readReference_X10_firstOf rfl rfl rfl (by decide +kernel) ⟨Nat.le_of_ble_eq_true rfl, Nat.le_of_ble_eq_true rfl⟩) (kpreV hK hN hP hD [0, 1, 2, 3, 4, 5, 6, 7, 8, 9, 10] rfl (by decide) 10 rfl rfl) rfl rfl hl.1 rfl (lv_room (Nat.le_of_ble_eq_true rfl)) dX10_readReference_303 ⟨Nat.le_refl _, Nat.le_refl _⟩) hP hD hS hA rfl (fun H locs hP hS => ?_)
      refine lv_iload hx hb dX10_readReference_306 (lv_at hl 3 rfl) ?_
      refine lv_iadd hx hb dX10_readReference_308 ?_
      refine lv_iconst (v := (1 : Int32)) hx hb dX10_readReference_309 (by decide) ?_
      refine lv_isub hx hb dX10_readReference_310 ?_
      refine lv_goto (tgt := 316) hx hb dX10_readReference_311 (by decide) ?_
      exact j316 q16.1 q16.2 c0_7 c0_13 c0_14 ((q18 + y4) - (1 : Int32)) _ _ _ h hP hD hS (lv_sub hl [0] rfl)
  have j288 : ∀ (c0_5 : Int32) (c0_6 : Int32) (c0_7 : Int32) (c0_13 : Int32) (c0_14 : Int32) (y1 : Int32) (y2 : Int32) (y4 : Int32) (H : Heap) (locs : List Loc) (ls : Array Slot), pX10_readReference_j288 vD0 vD3 vD4 c0_5 c0_6 c0_7 c0_13 c0_14 y1 y2 y4 = some q → va_P D vwCl (wMD cC cI aD vD0 vD1 vD2 vD3 vD4 c0_5 c0_6 c0_7 vD8 vD9 vD10 vD11 vD12 c0_13 c0_14 vD15 vD16 vD17 vD18 vD19 vD20 vD21 vD22) H → va_D A (wMD cC cI aD vD0 vD1 vD2 vD3 vD4 c0_5 c0_6 c0_7 vD8 vD9 vD10 vD11 vD12 c0_13 c0_14 vD15 vD16 vD17 vD18 vD19 vD20 vD21 vD22) → va_S A s.heap H locs → lv_has ls 6 [(0, .ref aD.1), (1, .int y1), (2, .int y2), (4, .int y4)] → W p l e ({ frames := 2, cells := 0, slots := 0, locals := 46 } : Room) s m ([.ref aD.1, .int i1] : List Value).toArray below meth c H locs 0 0 (MQ below (va_Qv (fun (_ : Unit) => True) (fun _ => kPost D (wMD cC cI aD vD0 vD1 vD2 vD3 vD4 q.1 q.2.1 q.2.2.1 vD8 vD9 vD10 vD11 vD12 q.2.2.2.1 q.2.2.2.2 vD15 vD16 vD17 vD18 vD19 vD20 vD21 vD22) A) A) ([.ref aD.1, .int i1] : List Value).toArray s 0 0 A) (F0 m 288 ls [.ref aD.1]) := by
    clear h hP hD hS hl
    intro c0_5 c0_6 c0_7 c0_13 c0_14 y1 y2 y4 H locs ls h hP hD hS hl
    unfold pX10_readReference_j288 at h
    refine lv_iconst (v := (0 : Int32)) hx hb dX10_readReference_288 (by decide) ?_
    exact j289 c0_5 c0_6 c0_7 c0_13 c0_14 y1 y2 y4 (0 : Int32) _ _ _ h hP hD hS (lv_sub hl [0, 1, 2, 3] rfl)
  have j261 : ∀ (c0_5 : Int32) (c0_6 : Int32) (c0_7 : Int32) (c0_13 : Int32) (c0_14 : Int32) (y1 : Int32) (y2 : Int32) (y3 : Int32) (y4 : Int32) (H : Heap) (locs : List Loc) (ls : Array Slot), pX10_readReference_j261 vD0 vD3 vD4 c0_5 c0_6 c0_7 c0_13 c0_14 y1 y2 y3 y4 = some q → va_P D vwCl (wMD cC cI aD vD0 vD1 vD2 vD3 vD4 c0_5 c0_6 c0_7 vD8 vD9 vD10 vD11 vD12 c0_13 c0_14 vD15 vD16 vD17 vD18 vD19 vD20 vD21 vD22) H → va_D A (wMD cC cI aD vD0 vD1 vD2 vD3 vD4 c0_5 c0_6 c0_7 vD8 vD9 vD10 vD11 vD12 c0_13 c0_14 vD15 vD16 vD17 vD18 vD19 vD20 vD21 vD22) → va_S A s.heap H locs → lv_has ls 6 [(0, .ref aD.1), (1, .int y1), (2, .int y2), (3, .int y3), (4, .int y4)] → W p l e ({ frames := 2, cells := 0, slots := 0, locals := 46 } : Room) s m ([.ref aD.1, .int i1] : List Value).toArray below meth c H locs 0 0 (MQ below (va_Qv (fun (_ : Unit) => True) (fun _ => kPost D (wMD cC cI aD vD0 vD1 vD2 vD3 vD4 q.1 q.2.1 q.2.2.1 vD8 vD9 vD10 vD11 vD12 q.2.2.2.1 q.2.2.2.2 vD15 vD16 vD17 vD18 vD19 vD20 vD21 vD22) A) A) ([.ref aD.1, .int i1] : List Value).toArray s 0 0 A) (F0 m 261 ls []) := by
    clear h hP hD hS hl
    intro c0_5 c0_6 c0_7 c0_13 c0_14 y1 y2 y3 y4 H locs ls h hP hD hS hl
    unfold pX10_readReference_j261 at h
    refine lv_aload_n hx hb dX10_readReference_261 rfl (lv_at hl 0 rfl) ?_
    refine lv_aload_n hx hb dX10_readReference_262 rfl (lv_at hl 0 rfl) ?_
    refine va_get (D := D) (ci := 10) (v := .int c0_6) (C := RX10) (T := TX10) (N := 23) hx hb hts huX10 hown hK hP 0 rfl rfl 6 (by decide) (hts (.fieldLink RX10 109 "VerseColumnsModel" "isGood" "Z") (by decide +kernel)) (fun _ h9 => h9) rfl dX10_readReference_263 ?_
    refine lv_if_eq (tgt := 288) hx hb dX10_readReference_266 (by decide) (fun g => ?_) (fun g => ?_)
    · rw [if_pos g] at h
      exact j288 c0_5 c0_6 c0_7 c0_13 c0_14 y1 y2 y4 _ _ _ h hP hD hS (lv_sub hl [0, 1, 2, 4] rfl)
    · rw [if_neg g] at h
      refine lv_iload hx hb dX10_readReference_269 (lv_at hl 4 rfl) ?_
      refine lv_iload_n hx hb dX10_readReference_271 rfl (lv_at hl 3 rfl) ?_
      refine lv_aload_n hx hb dX10_readReference_272 rfl (lv_at hl 0 rfl) ?_
      refine lv_iload_n hx hb dX10_readReference_273 rfl (lv_at hl 1 rfl) ?_
      refine lv_iload_n hx hb dX10_readReference_274 rfl (lv_at hl 2 rfl) ?_
      obtain ⟨q20, h19, h⟩ := Option.bind_eq_some_iff.mp h
      refine kcir [0, 1, 2, 3, 4, 5, 6, 7, 8, 9, 10] (va_runV (As := [.int y1, .int y2]) (rest := [.int y3, .int y4, .ref aD.1]) ⟨hx, hb, hml, hown, hts⟩ (kX10_versesOf l D cI cC cS aD vD0 vD1 vD2 vD3 vD4 c0_5 c0_6 c0_7 vD8 vD9 vD10 vD11 vD12 c0_13 c0_14 vD15 vD16 vD17 vD18 vD19 vD20 vD21 vD22 y1 y2 H.size h19) (cwV 2 hts gX10_readReference_X10_versesOf rfl rfl rfl (by decide +kernel) ⟨Nat.le_of_ble_eq_true rfl, Nat.le_of_ble_eq_true rfl⟩) (kpreV hK hN hP hD [0, 1, 2, 3, 4, 5, 6, 7, 8, 9, 10] rfl (by decide) 10 rfl rfl) rfl rfl hl.1 rfl (lv_room (Nat.le_of_ble_eq_true rfl)) dX10_readReference_275 ⟨Nat.le_refl _, Nat.le_refl _⟩) hP hD hS hA rfl (fun H locs hP hS => ?_)
      obtain ⟨q22, h21, h⟩ := Option.bind_eq_some_iff.mp h
      refine kcir [] (va_runS (As := [.int y4, .int y3, .int q20]) (rest := [.ref aD.1]) ⟨hx, hb, hml, hown, hts⟩ (kX10_in l D cI cC cS y4 y3 q20 H.size h21) (cwS 3 hts gX10_readReference_X10_in rfl rfl rfl (by decide +kernel) ⟨Nat.le_of_ble_eq_true rfl, Nat.le_of_ble_eq_true rfl⟩) (kpre hK hN hP hD [] rfl (by decide)) rfl rfl hl.1 rfl (lv_room (Nat.le_of_ble_eq_true rfl)) dX10_readReference_278 ⟨Nat.le_refl _, Nat.le_refl _⟩) hP hD hS hA rfl (fun H locs hP hS => ?_)
      refine lv_if_eq (tgt := 288) hx hb dX10_readReference_281 (by decide) (fun g => ?_) (fun g => ?_)
      · rw [if_pos g] at h
        exact j288 c0_5 c0_6 c0_7 c0_13 c0_14 y1 y2 y4 _ _ _ h hP hD hS (lv_sub hl [0, 1, 2, 4] rfl)
      · rw [if_neg g] at h
        refine lv_iconst (v := (1 : Int32)) hx hb dX10_readReference_284 (by decide) ?_
        refine lv_goto (tgt := 289) hx hb dX10_readReference_285 (by decide) ?_
        exact j289 c0_5 c0_6 c0_7 c0_13 c0_14 y1 y2 y4 (1 : Int32) _ _ _ h hP hD hS (lv_sub hl [0, 1, 2, 4] rfl)
  have j255 : ∀ (c0_5 : Int32) (c0_6 : Int32) (c0_7 : Int32) (c0_13 : Int32) (c0_14 : Int32) (t1 : Int32) (H : Heap) (locs : List Loc) (ls : Array Slot), pX10_readReference_j255 vD0 vD3 vD4 c0_5 c0_6 c0_7 c0_13 c0_14 t1 = some q → va_P D vwCl (wMD cC cI aD vD0 vD1 vD2 vD3 vD4 c0_5 c0_6 c0_7 vD8 vD9 vD10 vD11 vD12 c0_13 c0_14 vD15 vD16 vD17 vD18 vD19 vD20 vD21 vD22) H → va_D A (wMD cC cI aD vD0 vD1 vD2 vD3 vD4 c0_5 c0_6 c0_7 vD8 vD9 vD10 vD11 vD12 c0_13 c0_14 vD15 vD16 vD17 vD18 vD19 vD20 vD21 vD22) → va_S A s.heap H locs → lv_has ls 6 [(0, .ref aD.1)] → W p l e ({ frames := 2, cells := 0, slots := 0, locals := 46 } : Room) s m ([.ref aD.1, .int i1] : List Value).toArray below meth c H locs 0 0 (MQ below (va_Qv (fun (_ : Unit) => True) (fun _ => kPost D (wMD cC cI aD vD0 vD1 vD2 vD3 vD4 q.1 q.2.1 q.2.2.1 vD8 vD9 vD10 vD11 vD12 q.2.2.2.1 q.2.2.2.2 vD15 vD16 vD17 vD18 vD19 vD20 vD21 vD22) A) A) ([.ref aD.1, .int i1] : List Value).toArray s 0 0 A) (F0 m 255 ls [.int t1, .ref aD.1]) := by
    clear h hP hD hS hl
    intro c0_5 c0_6 c0_7 c0_13 c0_14 t1 H locs ls h hP hD hS hl
    unfold pX10_readReference_j255 at h
    refine va_put (D := D) (ci := 10) (v := .int t1) (ty := .int) (C := RX10) (T := TX10) (N := 23) hx hb hts huX10 tyX10 tyX10_ok nmX10 hown hK hP hD hS 0 rfl rfl 14 (by decide) (hts (.fieldLink RX10 152 "VerseColumnsModel" "referTo" "I") (by decide +kernel)) (fun _ h9 => h9) rfl (by decide +kernel) rfl rfl (Nat.le_of_ble_eq_true rfl) dX10_readReference_255 (fun H locs hP hD hS => ?_)
    have hP : va_P D vwCl (wMD cC cI aD vD0 vD1 vD2 vD3 vD4 c0_5 c0_6 c0_7 vD8 vD9 vD10 vD11 vD12 c0_13 t1 vD15 vD16 vD17 vD18 vD19 vD20 vD21 vD22) H := hP
    have hD : va_D A (wMD cC cI aD vD0 vD1 vD2 vD3 vD4 c0_5 c0_6 c0_7 vD8 vD9 vD10 vD11 vD12 c0_13 t1 vD15 vD16 vD17 vD18 vD19 vD20 vD21 vD22) := hD
    refine lv_goto (tgt := 319) hx hb dX10_readReference_258 (by decide) ?_
    exact j319 c0_5 c0_6 c0_7 c0_13 t1 _ _ _ h hP hD hS (lv_sub hl [0] rfl)
  have j227 : ∀ (c0_5 : Int32) (c0_6 : Int32) (c0_7 : Int32) (c0_13 : Int32) (c0_14 : Int32) (y1 : Int32) (y4 : Int32) (y5 : Int32) (t1 : Int32) (H : Heap) (locs : List Loc) (ls : Array Slot), pX10_readReference_j227 vD0 vD3 vD4 c0_5 c0_6 c0_7 c0_13 c0_14 y1 y4 y5 t1 = some q → va_P D vwCl (wMD cC cI aD vD0 vD1 vD2 vD3 vD4 c0_5 c0_6 c0_7 vD8 vD9 vD10 vD11 vD12 c0_13 c0_14 vD15 vD16 vD17 vD18 vD19 vD20 vD21 vD22) H → va_D A (wMD cC cI aD vD0 vD1 vD2 vD3 vD4 c0_5 c0_6 c0_7 vD8 vD9 vD10 vD11 vD12 c0_13 c0_14 vD15 vD16 vD17 vD18 vD19 vD20 vD21 vD22) → va_S A s.heap H locs → lv_has ls 6 [(0, .ref aD.1), (1, .int y1), (4, .int y4), (5, .int y5)] → W p l e ({ frames := 2, cells := 0, slots := 0, locals := 46 } : Room) s m ([.ref aD.1, .int i1] : List Value).toArray below meth c H locs 0 0 (MQ below (va_Qv (fun (_ : Unit) => True) (fun _ => kPost D (wMD cC cI aD vD0 vD1 vD2 vD3 vD4 q.1 q.2.1 q.2.2.1 vD8 vD9 vD10 vD11 vD12 q.2.2.2.1 q.2.2.2.2 vD15 vD16 vD17 vD18 vD19 vD20 vD21 vD22) A) A) ([.ref aD.1, .int i1] : List Value).toArray s 0 0 A) (F0 m 227 ls [.int t1, .ref aD.1]) := by
    clear h hP hD hS hl
    intro c0_5 c0_6 c0_7 c0_13 c0_14 y1 y4 y5 t1 H locs ls h hP hD hS hl
    unfold pX10_readReference_j227 at h
    obtain ⟨q34, h33, h⟩ := Option.bind_eq_some_iff.mp h
    refine kcvw (ws' := (wMD cC cI aD vD0 vD1 vD2 vD3 vD4 q34.1 q34.2 c0_7 vD8 vD9 vD10 vD11 vD12 c0_13 c0_14 vD15 vD16 vD17 vD18 vD19 vD20 vD21 vD22)) [0, 1, 2, 3, 4, 5, 6, 7, 8, 9, 10] (va_runV (As := [.int t1]) (rest := []) ⟨hx, hb, hml, hown, hts⟩ (kX10_needs l D cI cC cS aD vD0 vD1 vD2 vD3 vD4 c0_5 c0_6 c0_7 vD8 vD9 vD10 vD11 vD12 c0_13 c0_14 vD15 vD16 vD17 vD18 vD19 vD20 vD21 vD22 t1 H.size h33) (cwV 1 hts gX10_readReference_X10_needs rfl rfl rfl (by decide +kernel) ⟨Nat.le_of_ble_eq_true rfl, Nat.le_of_ble_eq_true rfl⟩) (kpreV hK hN hP hD [0, 1, 2, 3, 4, 5, 6, 7, 8, 9, 10] rfl (by decide) 10 rfl rfl) rfl rfl hl.1 rfl (lv_room (Nat.le_of_ble_eq_true rfl)) dX10_readReference_227 ⟨Nat.le_refl _, Nat.le_refl _⟩) hP hD hS hA rfl (by decide) rfl [1, 2, 3, 4, 5, 6, 7, 8, 9, 10, 11] (by decide +kernel) rfl (fun H locs hP hD hS => ?_)
    refine lv_aload_n hx hb dX10_readReference_230 rfl (lv_at hl 0 rfl) ?_
    refine lv_aload_n hx hb dX10_readReference_231 rfl (lv_at hl 0 rfl) ?_
    refine va_get (D := D) (ci := 10) (v := .int q34.2) (C := RX10) (T := TX10) (N := 23) hx hb hts huX10 hown hK hP 0 rfl rfl 6 (by decide) (hts (.fieldLink RX10 109 "VerseColumnsModel" "isGood" "Z") (by decide +kernel)) (fun _ h9 => h9) rfl dX10_readReference_232 ?_
    refine lv_if_eq (tgt := 253) hx hb dX10_readReference_235 (by decide) (fun g => ?_) (fun g => ?_)
    · rw [if_pos g] at h
      refine lv_bipush (v := (-5 : Int32)) hx hb dX10_readReference_253 (by decide) ?_
      exact j255 q34.1 q34.2 c0_7 c0_13 c0_14 (-5 : Int32) _ _ _ h hP hD hS (lv_sub hl [0] rfl)
    · rw [if_neg g] at h
      refine lv_aload_n hx hb dX10_readReference_238 rfl (lv_at hl 0 rfl) ?_
      refine lv_iload_n hx hb dX10_readReference_239 rfl (lv_at hl 1 rfl) ?_
      refine lv_iload hx hb dX10_readReference_240 (lv_at hl 2 rfl) ?_
      obtain ⟨q36, h35, h⟩ := Option.bind_eq_some_iff.mp h
      refine kcir [0, 1, 2, 3, 4, 5, 6, 7, 8, 9, 10] (va_runV (As := [.int y1, .int y4]) (rest := [.ref aD.1]) ⟨hx, hb, hml, hown, hts⟩ (kX10_firstOf l D cI cC cS aD vD0 vD1 vD2 vD3 vD4 q34.1 q34.2 c0_7 vD8 vD9 vD10 vD11 vD12 c0_13 c0_14 vD15 vD16 vD17 vD18 vD19 vD20 vD21 vD22 y1 y4 H.size h35) (cwV 2 hts gX10_readReference_X10_firstOf rfl rfl rfl (by decide +kernel) ⟨Nat.le_of_ble_eq_true rfl, Nat.le_of_ble_eq_true rfl⟩) (kpreV hK hN hP hD [0, 1, 2, 3, 4, 5, 6, 7, 8, 9, 10] rfl (by decide) 10 rfl rfl) rfl rfl hl.1 rfl (lv_room (Nat.le_of_ble_eq_true rfl)) dX10_readReference_242 ⟨Nat.le_refl _, Nat.le_refl _⟩) hP hD hS hA rfl (fun H locs hP hS => ?_)
      refine lv_iload hx hb dX10_readReference_245 (lv_at hl 3 rfl) ?_
      refine lv_iadd hx hb dX10_readReference_247 ?_
      refine lv_iconst (v := (1 : Int32)) hx hb dX10_readReference_248 (by decide) ?_
      refine lv_isub hx hb dX10_readReference_249 ?_
      refine lv_goto (tgt := 255) hx hb dX10_readReference_250 (by decide) ?_
      exact j255 q34.1 q34.2 c0_7 c0_13 c0_14 ((q36 + y5) - (1 : Int32)) _ _ _ h hP hD hS (lv_sub hl [0] rfl)
  have j226 : ∀ (c0_5 : Int32) (c0_6 : Int32) (c0_7 : Int32) (c0_13 : Int32) (c0_14 : Int32) (y1 : Int32) (y4 : Int32) (y5 : Int32) (H : Heap) (locs : List Loc) (ls : Array Slot), pX10_readReference_j226 vD0 vD3 vD4 c0_5 c0_6 c0_7 c0_13 c0_14 y1 y4 y5 = some q → va_P D vwCl (wMD cC cI aD vD0 vD1 vD2 vD3 vD4 c0_5 c0_6 c0_7 vD8 vD9 vD10 vD11 vD12 c0_13 c0_14 vD15 vD16 vD17 vD18 vD19 vD20 vD21 vD22) H → va_D A (wMD cC cI aD vD0 vD1 vD2 vD3 vD4 c0_5 c0_6 c0_7 vD8 vD9 vD10 vD11 vD12 c0_13 c0_14 vD15 vD16 vD17 vD18 vD19 vD20 vD21 vD22) → va_S A s.heap H locs → lv_has ls 6 [(0, .ref aD.1), (1, .int y1), (4, .int y4), (5, .int y5)] → W p l e ({ frames := 2, cells := 0, slots := 0, locals := 46 } : Room) s m ([.ref aD.1, .int i1] : List Value).toArray below meth c H locs 0 0 (MQ below (va_Qv (fun (_ : Unit) => True) (fun _ => kPost D (wMD cC cI aD vD0 vD1 vD2 vD3 vD4 q.1 q.2.1 q.2.2.1 vD8 vD9 vD10 vD11 vD12 q.2.2.2.1 q.2.2.2.2 vD15 vD16 vD17 vD18 vD19 vD20 vD21 vD22) A) A) ([.ref aD.1, .int i1] : List Value).toArray s 0 0 A) (F0 m 226 ls [.ref aD.1]) := by
    clear h hP hD hS hl
    intro c0_5 c0_6 c0_7 c0_13 c0_14 y1 y4 y5 H locs ls h hP hD hS hl
    unfold pX10_readReference_j226 at h
    refine lv_iconst (v := (0 : Int32)) hx hb dX10_readReference_226 (by decide) ?_
    exact j227 c0_5 c0_6 c0_7 c0_13 c0_14 y1 y4 y5 (0 : Int32) _ _ _ h hP hD hS (lv_sub hl [0, 1, 2, 3] rfl)
  have j222 : ∀ (c0_5 : Int32) (c0_6 : Int32) (c0_7 : Int32) (c0_13 : Int32) (c0_14 : Int32) (y1 : Int32) (y4 : Int32) (y5 : Int32) (H : Heap) (locs : List Loc) (ls : Array Slot), pX10_readReference_j222 vD0 vD3 vD4 c0_5 c0_6 c0_7 c0_13 c0_14 y1 y4 y5 = some q → va_P D vwCl (wMD cC cI aD vD0 vD1 vD2 vD3 vD4 c0_5 c0_6 c0_7 vD8 vD9 vD10 vD11 vD12 c0_13 c0_14 vD15 vD16 vD17 vD18 vD19 vD20 vD21 vD22) H → va_D A (wMD cC cI aD vD0 vD1 vD2 vD3 vD4 c0_5 c0_6 c0_7 vD8 vD9 vD10 vD11 vD12 c0_13 c0_14 vD15 vD16 vD17 vD18 vD19 vD20 vD21 vD22) → va_S A s.heap H locs → lv_has ls 6 [(0, .ref aD.1), (1, .int y1), (4, .int y4), (5, .int y5)] → W p l e ({ frames := 2, cells := 0, slots := 0, locals := 46 } : Room) s m ([.ref aD.1, .int i1] : List Value).toArray below meth c H locs 0 0 (MQ below (va_Qv (fun (_ : Unit) => True) (fun _ => kPost D (wMD cC cI aD vD0 vD1 vD2 vD3 vD4 q.1 q.2.1 q.2.2.1 vD8 vD9 vD10 vD11 vD12 q.2.2.2.1 q.2.2.2.2 vD15 vD16 vD17 vD18 vD19 vD20 vD21 vD22) A) A) ([.ref aD.1, .int i1] : List Value).toArray s 0 0 A) (F0 m 222 ls [.ref aD.1]) := by
    clear h hP hD hS hl
    intro c0_5 c0_6 c0_7 c0_13 c0_14 y1 y4 y5 H locs ls h hP hD hS hl
    unfold pX10_readReference_j222 at h
    refine lv_iconst (v := (1 : Int32)) hx hb dX10_readReference_222 (by decide) ?_
    refine lv_goto (tgt := 227) hx hb dX10_readReference_223 (by decide) ?_
    exact j227 c0_5 c0_6 c0_7 c0_13 c0_14 y1 y4 y5 (1 : Int32) _ _ _ h hP hD hS (lv_sub hl [0, 1, 2, 3] rfl)
  have j98 : ∀ (c0_5 : Int32) (c0_6 : Int32) (c0_7 : Int32) (c0_13 : Int32) (c0_14 : Int32) (y1 : Int32) (y2 : Int32) (y3 : Int32) (t1 : Int32) (H : Heap) (locs : List Loc) (ls : Array Slot), pX10_readReference_j98 vD0 vD3 vD4 c0_5 c0_6 c0_7 c0_13 c0_14 y1 y2 y3 t1 = some q → va_P D vwCl (wMD cC cI aD vD0 vD1 vD2 vD3 vD4 c0_5 c0_6 c0_7 vD8 vD9 vD10 vD11 vD12 c0_13 c0_14 vD15 vD16 vD17 vD18 vD19 vD20 vD21 vD22) H → va_D A (wMD cC cI aD vD0 vD1 vD2 vD3 vD4 c0_5 c0_6 c0_7 vD8 vD9 vD10 vD11 vD12 c0_13 c0_14 vD15 vD16 vD17 vD18 vD19 vD20 vD21 vD22) → va_S A s.heap H locs → lv_has ls 6 [(0, .ref aD.1), (1, .int y1), (2, .int y2), (3, .int y3)] → W p l e ({ frames := 2, cells := 0, slots := 0, locals := 46 } : Room) s m ([.ref aD.1, .int i1] : List Value).toArray below meth c H locs 0 0 (MQ below (va_Qv (fun (_ : Unit) => True) (fun _ => kPost D (wMD cC cI aD vD0 vD1 vD2 vD3 vD4 q.1 q.2.1 q.2.2.1 vD8 vD9 vD10 vD11 vD12 q.2.2.2.1 q.2.2.2.2 vD15 vD16 vD17 vD18 vD19 vD20 vD21 vD22) A) A) ([.ref aD.1, .int i1] : List Value).toArray s 0 0 A) (F0 m 98 ls [.int t1, .ref aD.1]) := by
    clear h hP hD hS hl
    intro c0_5 c0_6 c0_7 c0_13 c0_14 y1 y2 y3 t1 H locs ls h hP hD hS hl
    unfold pX10_readReference_j98 at h
    refine va_put (D := D) (ci := 10) (v := .int t1) (ty := .int) (C := RX10) (T := TX10) (N := 23) hx hb hts huX10 tyX10 tyX10_ok nmX10 hown hK hP hD hS 0 rfl rfl 13 (by decide) (hts (.fieldLink RX10 149 "VerseColumnsModel" "referFrom" "I") (by decide +kernel)) (fun _ h9 => h9) rfl (by decide +kernel) rfl rfl (Nat.le_of_ble_eq_true rfl) dX10_readReference_98 (fun H locs hP hD hS => ?_)
    have hP : va_P D vwCl (wMD cC cI aD vD0 vD1 vD2 vD3 vD4 c0_5 c0_6 c0_7 vD8 vD9 vD10 vD11 vD12 t1 c0_14 vD15 vD16 vD17 vD18 vD19 vD20 vD21 vD22) H := hP
    have hD : va_D A (wMD cC cI aD vD0 vD1 vD2 vD3 vD4 c0_5 c0_6 c0_7 vD8 vD9 vD10 vD11 vD12 t1 c0_14 vD15 vD16 vD17 vD18 vD19 vD20 vD21 vD22) := hD
    refine lv_aload_n hx hb dX10_readReference_101 rfl (lv_at hl 0 rfl) ?_
    refine lv_aload_n hx hb dX10_readReference_102 rfl (lv_at hl 0 rfl) ?_
    refine va_get (D := D) (ci := 10) (v := .int t1) (C := RX10) (T := TX10) (N := 23) hx hb hts huX10 hown hK hP 0 rfl rfl 13 (by decide) (hts (.fieldLink RX10 149 "VerseColumnsModel" "referFrom" "I") (by decide +kernel)) (fun _ h9 => h9) rfl dX10_readReference_103 ?_
    refine va_put (D := D) (ci := 10) (v := .int t1) (ty := .int) (C := RX10) (T := TX10) (N := 23) hx hb hts huX10 tyX10 tyX10_ok nmX10 hown hK hP hD hS 0 rfl rfl 14 (by decide) (hts (.fieldLink RX10 152 "VerseColumnsModel" "referTo" "I") (by decide +kernel)) (fun _ h9 => h9) rfl (by decide +kernel) rfl rfl (Nat.le_of_ble_eq_true rfl) dX10_readReference_106 (fun H locs hP hD hS => ?_)
    have hP : va_P D vwCl (wMD cC cI aD vD0 vD1 vD2 vD3 vD4 c0_5 c0_6 c0_7 vD8 vD9 vD10 vD11 vD12 t1 t1 vD15 vD16 vD17 vD18 vD19 vD20 vD21 vD22) H := hP
    have hD : va_D A (wMD cC cI aD vD0 vD1 vD2 vD3 vD4 c0_5 c0_6 c0_7 vD8 vD9 vD10 vD11 vD12 t1 t1 vD15 vD16 vD17 vD18 vD19 vD20 vD21 vD22) := hD
    refine lv_aload_n hx hb dX10_readReference_109 rfl (lv_at hl 0 rfl) ?_
    refine va_get (D := D) (ci := 10) (v := .int c0_6) (C := RX10) (T := TX10) (N := 23) hx hb hts huX10 hown hK hP 0 rfl rfl 6 (by decide) (hts (.fieldLink RX10 109 "VerseColumnsModel" "isGood" "Z") (by decide +kernel)) (fun _ h9 => h9) rfl dX10_readReference_110 ?_
    refine lv_if_eq (tgt := 127) hx hb dX10_readReference_113 (by decide) (fun g => ?_) (fun g => ?_)
    · rw [if_pos g] at h
      obtain rfl := Option.some.inj h
      exact W.vret hx hb hr (fun t ht hW => ⟨⟨(), rfl, trivial, by rw [ht]; exact hP, hD⟩, hS.F ht⟩) hS.2.2 dX10_readReference_127
    · rw [if_neg g] at h
      refine lv_aload_n hx hb dX10_readReference_116 rfl (lv_at hl 0 rfl) ?_
      refine va_get (D := D) (ci := 10) (v := .int c0_5) (C := RX10) (T := TX10) (N := 23) hx hb hts huX10 hown hK hP 0 rfl rfl 5 (by decide) (hts (.fieldLink RX10 103 "VerseColumnsModel" "place" "I") (by decide +kernel)) (fun _ h9 => h9) rfl dX10_readReference_117 ?_
      refine lv_aload_n hx hb dX10_readReference_120 rfl (lv_at hl 0 rfl) ?_
      refine va_get (D := D) (ci := 10) (v := .int vD3) (C := RX10) (T := TX10) (N := 23) hx hb hts huX10 hown hK hP 0 rfl rfl 3 (by decide) (hts (.fieldLink RX10 100 "VerseColumnsModel" "typed" "I") (by decide +kernel)) (fun _ h9 => h9) rfl dX10_readReference_121 ?_
      refine lv_icmp_ne (tgt := 128) hx hb dX10_readReference_124 (by decide) (fun g => ?_) (fun g => ?_)
      · rw [if_neg g] at h
        refine lv_aload_n hx hb dX10_readReference_128 rfl (lv_at hl 0 rfl) ?_
        refine lv_bipush (v := (45 : Int32)) hx hb dX10_readReference_129 (by decide) ?_
        obtain ⟨q12, h11, h⟩ := Option.bind_eq_some_iff.mp h
        refine kcvw (ws' := (wMD cC cI aD vD0 vD1 vD2 vD3 vD4 q12.1 q12.2 c0_7 vD8 vD9 vD10 vD11 vD12 t1 t1 vD15 vD16 vD17 vD18 vD19 vD20 vD21 vD22)) [0, 1, 2, 3, 4, 5, 6, 7, 8, 9, 10] (va_runV (As := [.int (45 : Int32)]) (rest := []) ⟨hx, hb, hml, hown, hts⟩ (kX10_sign l D cI cC cS aD vD0 vD1 vD2 vD3 vD4 c0_5 c0_6 c0_7 vD8 vD9 vD10 vD11 vD12 t1 t1 vD15 vD16 vD17 vD18 vD19 vD20 vD21 vD22 (45 : Int32) H.size h11) (cwV 1 hts gX10_readReference_X10_sign rfl rfl rfl (by decide +kernel) ⟨Nat.le_of_ble_eq_true rfl, Nat.le_of_ble_eq_true rfl⟩) (kpreV hK hN hP hD [0, 1, 2, 3, 4, 5, 6, 7, 8, 9, 10] rfl (by decide) 10 rfl rfl) rfl rfl hl.1 rfl (lv_room (Nat.le_of_ble_eq_true rfl)) dX10_readReference_131 ⟨Nat.le_refl _, Nat.le_refl _⟩) hP hD hS hA rfl (by decide) rfl [1, 2, 3, 4, 5, 6, 7, 8, 9, 10, 11] (by decide +kernel) rfl (fun H locs hP hD hS => ?_)
        refine lv_aload_n hx hb dX10_readReference_134 rfl (lv_at hl 0 rfl) ?_
        obtain ⟨q14, h13, h⟩ := Option.bind_eq_some_iff.mp h
        refine kciw (ws' := (wMD cC cI aD vD0 vD1 vD2 vD3 vD4 q14.2.1 q14.2.2.1 q14.2.2.2 vD8 vD9 vD10 vD11 vD12 t1 t1 vD15 vD16 vD17 vD18 vD19 vD20 vD21 vD22)) [0, 1, 2, 3, 4, 5, 6, 7, 8, 9, 10] (va_runV (As := []) (rest := []) ⟨hx, hb, hml, hown, hts⟩ (kX10_number l D cI cC cS aD vD0 vD1 vD2 vD3 vD4 q12.1 q12.2 c0_7 vD8 vD9 vD10 vD11 vD12 t1 t1 vD15 vD16 vD17 vD18 vD19 vD20 vD21 vD22 H.size h13) (cwV 0 hts gX10_readReference_X10_number rfl rfl rfl (by decide +kernel) ⟨Nat.le_of_ble_eq_true rfl, Nat.le_of_ble_eq_true rfl⟩) (kpreV hK hN hP hD [0, 1, 2, 3, 4, 5, 6, 7, 8, 9, 10] rfl (by decide) 10 rfl rfl) rfl rfl hl.1 rfl (lv_room (Nat.le_of_ble_eq_true rfl)) dX10_readReference_135 ⟨Nat.le_refl _, Nat.le_refl _⟩) hP hD hS hA rfl (by decide) rfl [1, 2, 3, 4, 5, 6, 7, 8, 9, 10, 11] (by decide +kernel) rfl (fun H locs hP hD hS => ?_)
        refine lv_istore (lv' := [(4, .int q14.1), (0, .ref aD.1), (1, .int y1), (2, .int y2), (3, .int y3)]) hx hb dX10_readReference_138 hl (by decide) rfl (fun ls hl => ?_)
        refine lv_aload_n hx hb dX10_readReference_140 rfl (lv_at hl 1 rfl) ?_
        refine va_get (D := D) (ci := 10) (v := .int q14.2.2.1) (C := RX10) (T := TX10) (N := 23) hx hb hts huX10 hown hK hP 0 rfl rfl 6 (by decide) (hts (.fieldLink RX10 109 "VerseColumnsModel" "isGood" "Z") (by decide +kernel)) (fun _ h9 => h9) rfl dX10_readReference_141 ?_
        refine lv_if_eq (tgt := 261) hx hb dX10_readReference_144 (by decide) (fun g => ?_) (fun g => ?_)
        · rw [if_pos g] at h
          exact j261 q14.2.1 q14.2.2.1 q14.2.2.2 t1 t1 y1 y2 y3 q14.1 _ _ _ h hP hD hS (lv_sub hl [1, 2, 3, 4, 0] rfl)
        · rw [if_neg g] at h
          refine lv_aload_n hx hb dX10_readReference_147 rfl (lv_at hl 1 rfl) ?_
          refine lv_bipush (v := (58 : Int32)) hx hb dX10_readReference_148 (by decide) ?_
          refine lv_bipush (v := (58 : Int32)) hx hb dX10_readReference_150 (by decide) ?_
          obtain ⟨q24, h23, h⟩ := Option.bind_eq_some_iff.mp h
          refine kcir [0, 1, 2, 3, 4, 5, 6, 7, 8, 9, 10] (va_runV (As := [.int (58 : Int32), .int (58 : Int32)]) (rest := []) ⟨hx, hb, hml, hown, hts⟩ (kX10_isAt l D cI cC cS aD vD0 vD1 vD2 vD3 vD4 q14.2.1 q14.2.2.1 q14.2.2.2 vD8 vD9 vD10 vD11 vD12 t1 t1 vD15 vD16 vD17 vD18 vD19 vD20 vD21 vD22 (58 : Int32) (58 : Int32) H.size h23) (cwV 2 hts gX10_readReference_X10_isAt rfl rfl rfl (by decide +kernel) ⟨Nat.le_of_ble_eq_true rfl, Nat.le_of_ble_eq_true rfl⟩) (kpreV hK hN hP hD [0, 1, 2, 3, 4, 5, 6, 7, 8, 9, 10] rfl (by decide) 10 rfl rfl) rfl rfl hl.1 rfl (lv_room (Nat.le_of_ble_eq_true rfl)) dX10_readReference_152 ⟨Nat.le_refl _, Nat.le_refl _⟩) hP hD hS hA rfl (fun H locs hP hS => ?_)
          refine lv_if_eq (tgt := 261) hx hb dX10_readReference_155 (by decide) (fun g => ?_) (fun g => ?_)
          · rw [if_pos g] at h
            exact j261 q14.2.1 q14.2.2.1 q14.2.2.2 t1 t1 y1 y2 y3 q14.1 _ _ _ h hP hD hS (lv_sub hl [1, 2, 3, 4, 0] rfl)
          · rw [if_neg g] at h
            refine lv_aload_n hx hb dX10_readReference_158 rfl (lv_at hl 1 rfl) ?_
            refine lv_iload hx hb dX10_readReference_159 (lv_at hl 0 rfl) ?_
            refine lv_iload_n hx hb dX10_readReference_161 rfl (lv_at hl 3 rfl) ?_
            refine lv_aload_n hx hb dX10_readReference_162 rfl (lv_at hl 1 rfl) ?_
            refine va_get (D := D) (ci := 10) (v := .ref aD.2.1) (C := RX10) (T := TX10) (N := 23) hx hb hts huX10 hown hK hP 0 rfl rfl 0 (by decide) (hts (.fieldLink RX10 7 "VerseColumnsModel" "row" "[I") (by decide +kernel)) (fun _ h9 => h9) rfl dX10_readReference_163 ?_
            refine lv_sipush (v := (362 : Int32)) hx hb dX10_readReference_166 (by decide) ?_
            refine lv_iload_n hx hb dX10_readReference_169 rfl (lv_at hl 2 rfl) ?_
            refine lv_iadd hx hb dX10_readReference_170 ?_
            obtain ⟨g, h⟩ := kif h
            refine va_iald hx hb hK hP 1 0 rfl rfl (kin g) dX10_readReference_171 ?_
            obtain ⟨q26, h25, h⟩ := Option.bind_eq_some_iff.mp h
            refine kcir [] (va_runS (As := [.int q14.1, .int y2, .int (vD0 ((362 : Int32) + y1).toNatClampNeg)]) (rest := [.ref aD.1]) ⟨hx, hb, hml, hown, hts⟩ (kX10_in l D cI cC cS q14.1 y2 (vD0 ((362 : Int32) + y1).toNatClampNeg) H.size h25) (cwS 3 hts gX10_readReference_X10_in rfl rfl rfl (by decide +kernel) ⟨Nat.le_of_ble_eq_true rfl, Nat.le_of_ble_eq_true rfl⟩) (kpre hK hN hP hD [] rfl (by decide)) rfl rfl hl.1 rfl (lv_room (Nat.le_of_ble_eq_true rfl)) dX10_readReference_172 ⟨Nat.le_refl _, Nat.le_refl _⟩) hP hD hS hA rfl (fun H locs hP hS => ?_)
            obtain ⟨q28, h27, h⟩ := Option.bind_eq_some_iff.mp h
            refine kcvw (ws' := (wMD cC cI aD vD0 vD1 vD2 vD3 vD4 q28.1 q28.2 q14.2.2.2 vD8 vD9 vD10 vD11 vD12 t1 t1 vD15 vD16 vD17 vD18 vD19 vD20 vD21 vD22)) [0, 1, 2, 3, 4, 5, 6, 7, 8, 9, 10] (va_runV (As := [.int q26]) (rest := []) ⟨hx, hb, hml, hown, hts⟩ (kX10_needs l D cI cC cS aD vD0 vD1 vD2 vD3 vD4 q14.2.1 q14.2.2.1 q14.2.2.2 vD8 vD9 vD10 vD11 vD12 t1 t1 vD15 vD16 vD17 vD18 vD19 vD20 vD21 vD22 q26 H.size h27) (cwV 1 hts gX10_readReference_X10_needs rfl rfl rfl (by decide +kernel) ⟨Nat.le_of_ble_eq_true rfl, Nat.le_of_ble_eq_true rfl⟩) (kpreV hK hN hP hD [0, 1, 2, 3, 4, 5, 6, 7, 8, 9, 10] rfl (by decide) 10 rfl rfl) rfl rfl hl.1 rfl (lv_room (Nat.le_of_ble_eq_true rfl)) dX10_readReference_175 ⟨Nat.le_refl _, Nat.le_refl _⟩) hP hD hS hA rfl (by decide) rfl [1, 2, 3, 4, 5, 6, 7, 8, 9, 10, 11] (by decide +kernel) rfl (fun H locs hP hD hS => ?_)
            refine lv_aload_n hx hb dX10_readReference_178 rfl (lv_at hl 1 rfl) ?_
            refine lv_bipush (v := (58 : Int32)) hx hb dX10_readReference_179 (by decide) ?_
            obtain ⟨q30, h29, h⟩ := Option.bind_eq_some_iff.mp h
            refine kcvw (ws' := (wMD cC cI aD vD0 vD1 vD2 vD3 vD4 q30.1 q30.2 q14.2.2.2 vD8 vD9 vD10 vD11 vD12 t1 t1 vD15 vD16 vD17 vD18 vD19 vD20 vD21 vD22)) [0, 1, 2, 3, 4, 5, 6, 7, 8, 9, 10] (va_runV (As := [.int (58 : Int32)]) (rest := []) ⟨hx, hb, hml, hown, hts⟩ (kX10_sign l D cI cC cS aD vD0 vD1 vD2 vD3 vD4 q28.1 q28.2 q14.2.2.2 vD8 vD9 vD10 vD11 vD12 t1 t1 vD15 vD16 vD17 vD18 vD19 vD20 vD21 vD22 (58 : Int32) H.size h29) (cwV 1 hts gX10_readReference_X10_sign rfl rfl rfl (by decide +kernel) ⟨Nat.le_of_ble_eq_true rfl, Nat.le_of_ble_eq_true rfl⟩) (kpreV hK hN hP hD [0, 1, 2, 3, 4, 5, 6, 7, 8, 9, 10] rfl (by decide) 10 rfl rfl) rfl rfl hl.1 rfl (lv_room (Nat.le_of_ble_eq_true rfl)) dX10_readReference_181 ⟨Nat.le_refl _, Nat.le_refl _⟩) hP hD hS hA rfl (by decide) rfl [1, 2, 3, 4, 5, 6, 7, 8, 9, 10, 11] (by decide +kernel) rfl (fun H locs hP hD hS => ?_)
            refine lv_aload_n hx hb dX10_readReference_184 rfl (lv_at hl 1 rfl) ?_
            obtain ⟨q32, h31, h⟩ := Option.bind_eq_some_iff.mp h
            refine kciw (ws' := (wMD cC cI aD vD0 vD1 vD2 vD3 vD4 q32.2.1 q32.2.2.1 q32.2.2.2 vD8 vD9 vD10 vD11 vD12 t1 t1 vD15 vD16 vD17 vD18 vD19 vD20 vD21 vD22)) [0, 1, 2, 3, 4, 5, 6, 7, 8, 9, 10] (va_runV (As := []) (rest := []) ⟨hx, hb, hml, hown, hts⟩ (kX10_number l D cI cC cS aD vD0 vD1 vD2 vD3 vD4 q30.1 q30.2 q14.2.2.2 vD8 vD9 vD10 vD11 vD12 t1 t1 vD15 vD16 vD17 vD18 vD19 vD20 vD21 vD22 H.size h31) (cwV 0 hts gX10_readReference_X10_number rfl rfl rfl (by decide +kernel) ⟨Nat.le_of_ble_eq_true rfl, Nat.le_of_ble_eq_true rfl⟩) (kpreV hK hN hP hD [0, 1, 2, 3, 4, 5, 6, 7, 8, 9, 10] rfl (by decide) 10 rfl rfl) rfl rfl hl.1 rfl (lv_room (Nat.le_of_ble_eq_true rfl)) dX10_readReference_185 ⟨Nat.le_refl _, Nat.le_refl _⟩) hP hD hS hA rfl (by decide) rfl [1, 2, 3, 4, 5, 6, 7, 8, 9, 10, 11] (by decide +kernel) rfl (fun H locs hP hD hS => ?_)
            refine lv_istore (lv' := [(5, .int q32.1), (4, .int q14.1), (0, .ref aD.1), (1, .int y1), (2, .int y2), (3, .int y3)]) hx hb dX10_readReference_188 hl (by decide) rfl (fun ls hl => ?_)
            refine lv_aload_n hx hb dX10_readReference_190 rfl (lv_at hl 2 rfl) ?_
            refine lv_aload_n hx hb dX10_readReference_191 rfl (lv_at hl 2 rfl) ?_
            refine va_get (D := D) (ci := 10) (v := .int q32.2.2.1) (C := RX10) (T := TX10) (N := 23) hx hb hts huX10 hown hK hP 0 rfl rfl 6 (by decide) (hts (.fieldLink RX10 109 "VerseColumnsModel" "isGood" "Z") (by decide +kernel)) (fun _ h9 => h9) rfl dX10_readReference_192 ?_
            refine lv_if_eq (tgt := 226) hx hb dX10_readReference_195 (by decide) (fun g => ?_) (fun g => ?_)
            · rw [if_pos g] at h
              exact j226 q32.2.1 q32.2.2.1 q32.2.2.2 t1 t1 y1 q14.1 q32.1 _ _ _ h hP hD hS (lv_sub hl [2, 3, 1, 0] rfl)
            · rw [if_neg g] at h
              refine lv_iload hx hb dX10_readReference_198 (lv_at hl 0 rfl) ?_
              refine lv_aload_n hx hb dX10_readReference_200 rfl (lv_at hl 2 rfl) ?_
              refine lv_iload_n hx hb dX10_readReference_201 rfl (lv_at hl 3 rfl) ?_
              refine lv_iload hx hb dX10_readReference_202 (lv_at hl 1 rfl) ?_
              obtain ⟨q38, h37, h⟩ := Option.bind_eq_some_iff.mp h
              refine kcir [0, 1, 2, 3, 4, 5, 6, 7, 8, 9, 10] (va_runV (As := [.int y1, .int q14.1]) (rest := [.int q32.1, .ref aD.1]) ⟨hx, hb, hml, hown, hts⟩ (kX10_versesOf l D cI cC cS aD vD0 vD1 vD2 vD3 vD4 q32.2.1 q32.2.2.1 q32.2.2.2 vD8 vD9 vD10 vD11 vD12 t1 t1 vD15 vD16 vD17 vD18 vD19 vD20 vD21 vD22 y1 q14.1 H.size h37) (cwV 2 hts gX10_readReference_X10_versesOf rfl rfl rfl (by decide +kernel) ⟨Nat.le_of_ble_eq_true rfl, Nat.le_of_ble_eq_true rfl⟩) (kpreV hK hN hP hD [0, 1, 2, 3, 4, 5, 6, 7, 8, 9, 10] rfl (by decide) 10 rfl rfl) rfl rfl hl.1 rfl (lv_room (Nat.le_of_ble_eq_true rfl)) dX10_readReference_204 ⟨Nat.le_refl _, Nat.le_refl _⟩) hP hD hS hA rfl (fun H locs hP hS => ?_)
              refine lv_icmp_gt (tgt := 226) hx hb dX10_readReference_207 (by decide) (fun g => ?_) (fun g => ?_)
              · rw [if_pos g] at h
                exact j226 q32.2.1 q32.2.2.1 q32.2.2.2 t1 t1 y1 q14.1 q32.1 _ _ _ h hP hD hS (lv_sub hl [2, 3, 1, 0] rfl)
              · rw [if_neg g] at h
                refine lv_iload hx hb dX10_readReference_210 (lv_at hl 1 rfl) ?_
                refine lv_iload_n hx hb dX10_readReference_212 rfl (lv_at hl 4 rfl) ?_
                refine lv_icmp_gt (tgt := 222) hx hb dX10_readReference_213 (by decide) (fun g => ?_) (fun g => ?_)
                · rw [if_pos g] at h
                  exact j222 q32.2.1 q32.2.2.1 q32.2.2.2 t1 t1 y1 q14.1 q32.1 _ _ _ h hP hD hS (lv_sub hl [2, 3, 1, 0] rfl)
                · rw [if_neg g] at h
                  refine lv_iload hx hb dX10_readReference_216 (lv_at hl 0 rfl) ?_
                  refine lv_iload_n hx hb dX10_readReference_218 rfl (lv_at hl 5 rfl) ?_
                  refine lv_icmp_lt (tgt := 226) hx hb dX10_readReference_219 (by decide) (fun g => ?_) (fun g => ?_)
                  · rw [if_pos g] at h
                    exact j226 q32.2.1 q32.2.2.1 q32.2.2.2 t1 t1 y1 q14.1 q32.1 _ _ _ h hP hD hS (lv_sub hl [2, 3, 1, 0] rfl)
                  · rw [if_neg g] at h
                    exact j222 q32.2.1 q32.2.2.1 q32.2.2.2 t1 t1 y1 q14.1 q32.1 _ _ _ h hP hD hS (lv_sub hl [2, 3, 1, 0] rfl)
      · rw [if_pos g] at h
        obtain rfl := Option.some.inj h
        exact W.vret hx hb hr (fun t ht hW => ⟨⟨(), rfl, trivial, by rw [ht]; exact hP, hD⟩, hS.F ht⟩) hS.2.2 dX10_readReference_127
  have j72 : ∀ (c0_5 : Int32) (c0_6 : Int32) (c0_7 : Int32) (c0_13 : Int32) (c0_14 : Int32) (y1 : Int32) (y2 : Int32) (y3 : Int32) (t1 : Int32) (H : Heap) (locs : List Loc) (ls : Array Slot), pX10_readReference_j72 vD0 vD3 vD4 c0_5 c0_6 c0_7 c0_13 c0_14 y1 y2 y3 t1 = some q → va_P D vwCl (wMD cC cI aD vD0 vD1 vD2 vD3 vD4 c0_5 c0_6 c0_7 vD8 vD9 vD10 vD11 vD12 c0_13 c0_14 vD15 vD16 vD17 vD18 vD19 vD20 vD21 vD22) H → va_D A (wMD cC cI aD vD0 vD1 vD2 vD3 vD4 c0_5 c0_6 c0_7 vD8 vD9 vD10 vD11 vD12 c0_13 c0_14 vD15 vD16 vD17 vD18 vD19 vD20 vD21 vD22) → va_S A s.heap H locs → lv_has ls 6 [(0, .ref aD.1), (1, .int y1), (2, .int y2), (3, .int y3)] → W p l e ({ frames := 2, cells := 0, slots := 0, locals := 46 } : Room) s m ([.ref aD.1, .int i1] : List Value).toArray below meth c H locs 0 0 (MQ below (va_Qv (fun (_ : Unit) => True) (fun _ => kPost D (wMD cC cI aD vD0 vD1 vD2 vD3 vD4 q.1 q.2.1 q.2.2.1 vD8 vD9 vD10 vD11 vD12 q.2.2.2.1 q.2.2.2.2 vD15 vD16 vD17 vD18 vD19 vD20 vD21 vD22) A) A) ([.ref aD.1, .int i1] : List Value).toArray s 0 0 A) (F0 m 72 ls [.int t1, .ref aD.1]) := by
    clear h hP hD hS hl
    intro c0_5 c0_6 c0_7 c0_13 c0_14 y1 y2 y3 t1 H locs ls h hP hD hS hl
    unfold pX10_readReference_j72 at h
    obtain ⟨q10, h9, h⟩ := Option.bind_eq_some_iff.mp h
    refine kcvw (ws' := (wMD cC cI aD vD0 vD1 vD2 vD3 vD4 q10.1 q10.2 c0_7 vD8 vD9 vD10 vD11 vD12 c0_13 c0_14 vD15 vD16 vD17 vD18 vD19 vD20 vD21 vD22)) [0, 1, 2, 3, 4, 5, 6, 7, 8, 9, 10] (va_runV (As := [.int t1]) (rest := []) ⟨hx, hb, hml, hown, hts⟩ (kX10_needs l D cI cC cS aD vD0 vD1 vD2 vD3 vD4 c0_5 c0_6 c0_7 vD8 vD9 vD10 vD11 vD12 c0_13 c0_14 vD15 vD16 vD17 vD18 vD19 vD20 vD21 vD22 t1 H.size h9) (cwV 1 hts gX10_readReference_X10_needs rfl rfl rfl (by decide +kernel) ⟨Nat.le_of_ble_eq_true rfl, Nat.le_of_ble_eq_true rfl⟩) (kpreV hK hN hP hD [0, 1, 2, 3, 4, 5, 6, 7, 8, 9, 10] rfl (by decide) 10 rfl rfl) rfl rfl hl.1 rfl (lv_room (Nat.le_of_ble_eq_true rfl)) dX10_readReference_72 ⟨Nat.le_refl _, Nat.le_refl _⟩) hP hD hS hA rfl (by decide) rfl [1, 2, 3, 4, 5, 6, 7, 8, 9, 10, 11] (by decide +kernel) rfl (fun H locs hP hD hS => ?_)
    refine lv_aload_n hx hb dX10_readReference_75 rfl (lv_at hl 0 rfl) ?_
    refine lv_aload_n hx hb dX10_readReference_76 rfl (lv_at hl 0 rfl) ?_
    refine va_get (D := D) (ci := 10) (v := .int q10.2) (C := RX10) (T := TX10) (N := 23) hx hb hts huX10 hown hK hP 0 rfl rfl 6 (by decide) (hts (.fieldLink RX10 109 "VerseColumnsModel" "isGood" "Z") (by decide +kernel)) (fun _ h9 => h9) rfl dX10_readReference_77 ?_
    refine lv_if_eq (tgt := 96) hx hb dX10_readReference_80 (by decide) (fun g => ?_) (fun g => ?_)
    · rw [if_pos g] at h
      refine lv_bipush (v := (-5 : Int32)) hx hb dX10_readReference_96 (by decide) ?_
      exact j98 q10.1 q10.2 c0_7 c0_13 c0_14 y1 y2 y3 (-5 : Int32) _ _ _ h hP hD hS (lv_sub hl [0, 1, 2, 3] rfl)
    · rw [if_neg g] at h
      refine lv_aload_n hx hb dX10_readReference_83 rfl (lv_at hl 0 rfl) ?_
      refine lv_iload_n hx hb dX10_readReference_84 rfl (lv_at hl 1 rfl) ?_
      refine lv_iload_n hx hb dX10_readReference_85 rfl (lv_at hl 2 rfl) ?_
      obtain ⟨q40, h39, h⟩ := Option.bind_eq_some_iff.mp h
      refine kcir [0, 1, 2, 3, 4, 5, 6, 7, 8, 9, 10] (va_runV (As := [.int y1, .int y2]) (rest := [.ref aD.1]) ⟨hx, hb, hml, hown, hts⟩ (kX10_firstOf l D cI cC cS aD vD0 vD1 vD2 vD3 vD4 q10.1 q10.2 c0_7 vD8 vD9 vD10 vD11 vD12 c0_13 c0_14 vD15 vD16 vD17 vD18 vD19 vD20 vD21 vD22 y1 y2 H.size h39) (cwV 2 hts gX10_readReference_X10_firstOf rfl rfl rfl (by decide +kernel) ⟨Nat.le_of_ble_eq_true rfl, Nat.le_of_ble_eq_true rfl⟩) (kpreV hK hN hP hD [0, 1, 2, 3, 4, 5, 6, 7, 8, 9, 10] rfl (by decide) 10 rfl rfl) rfl rfl hl.1 rfl (lv_room (Nat.le_of_ble_eq_true rfl)) dX10_readReference_86 ⟨Nat.le_refl _, Nat.le_refl _⟩) hP hD hS hA rfl (fun H locs hP hS => ?_)
      refine lv_iload_n hx hb dX10_readReference_89 rfl (lv_at hl 3 rfl) ?_
      refine lv_iadd hx hb dX10_readReference_90 ?_
      refine lv_iconst (v := (1 : Int32)) hx hb dX10_readReference_91 (by decide) ?_
      refine lv_isub hx hb dX10_readReference_92 ?_
      refine lv_goto (tgt := 98) hx hb dX10_readReference_93 (by decide) ?_
      exact j98 q10.1 q10.2 c0_7 c0_13 c0_14 y1 y2 y3 ((q40 + y3) - (1 : Int32)) _ _ _ h hP hD hS (lv_sub hl [0, 1, 2, 3] rfl)
  have j71 : ∀ (c0_5 : Int32) (c0_6 : Int32) (c0_7 : Int32) (c0_13 : Int32) (c0_14 : Int32) (y1 : Int32) (y2 : Int32) (y3 : Int32) (H : Heap) (locs : List Loc) (ls : Array Slot), pX10_readReference_j71 vD0 vD3 vD4 c0_5 c0_6 c0_7 c0_13 c0_14 y1 y2 y3 = some q → va_P D vwCl (wMD cC cI aD vD0 vD1 vD2 vD3 vD4 c0_5 c0_6 c0_7 vD8 vD9 vD10 vD11 vD12 c0_13 c0_14 vD15 vD16 vD17 vD18 vD19 vD20 vD21 vD22) H → va_D A (wMD cC cI aD vD0 vD1 vD2 vD3 vD4 c0_5 c0_6 c0_7 vD8 vD9 vD10 vD11 vD12 c0_13 c0_14 vD15 vD16 vD17 vD18 vD19 vD20 vD21 vD22) → va_S A s.heap H locs → lv_has ls 6 [(0, .ref aD.1), (1, .int y1), (2, .int y2), (3, .int y3)] → W p l e ({ frames := 2, cells := 0, slots := 0, locals := 46 } : Room) s m ([.ref aD.1, .int i1] : List Value).toArray below meth c H locs 0 0 (MQ below (va_Qv (fun (_ : Unit) => True) (fun _ => kPost D (wMD cC cI aD vD0 vD1 vD2 vD3 vD4 q.1 q.2.1 q.2.2.1 vD8 vD9 vD10 vD11 vD12 q.2.2.2.1 q.2.2.2.2 vD15 vD16 vD17 vD18 vD19 vD20 vD21 vD22) A) A) ([.ref aD.1, .int i1] : List Value).toArray s 0 0 A) (F0 m 71 ls [.ref aD.1]) := by
    clear h hP hD hS hl
    intro c0_5 c0_6 c0_7 c0_13 c0_14 y1 y2 y3 H locs ls h hP hD hS hl
    unfold pX10_readReference_j71 at h
    refine lv_iconst (v := (0 : Int32)) hx hb dX10_readReference_71 (by decide) ?_
    exact j72 c0_5 c0_6 c0_7 c0_13 c0_14 y1 y2 y3 (0 : Int32) _ _ _ h hP hD hS (lv_sub hl [0, 1, 2, 3] rfl)
  have j35 : ∀ (c0_5 : Int32) (c0_6 : Int32) (c0_7 : Int32) (c0_13 : Int32) (c0_14 : Int32) (y1 : Int32) (y2 : Int32) (t1 : Int32) (H : Heap) (locs : List Loc) (ls : Array Slot), pX10_readReference_j35 vD0 vD3 vD4 c0_5 c0_6 c0_7 c0_13 c0_14 y1 y2 t1 = some q → va_P D vwCl (wMD cC cI aD vD0 vD1 vD2 vD3 vD4 c0_5 c0_6 c0_7 vD8 vD9 vD10 vD11 vD12 c0_13 c0_14 vD15 vD16 vD17 vD18 vD19 vD20 vD21 vD22) H → va_D A (wMD cC cI aD vD0 vD1 vD2 vD3 vD4 c0_5 c0_6 c0_7 vD8 vD9 vD10 vD11 vD12 c0_13 c0_14 vD15 vD16 vD17 vD18 vD19 vD20 vD21 vD22) → va_S A s.heap H locs → lv_has ls 6 [(0, .ref aD.1), (1, .int y1), (2, .int y2)] → W p l e ({ frames := 2, cells := 0, slots := 0, locals := 46 } : Room) s m ([.ref aD.1, .int i1] : List Value).toArray below meth c H locs 0 0 (MQ below (va_Qv (fun (_ : Unit) => True) (fun _ => kPost D (wMD cC cI aD vD0 vD1 vD2 vD3 vD4 q.1 q.2.1 q.2.2.1 vD8 vD9 vD10 vD11 vD12 q.2.2.2.1 q.2.2.2.2 vD15 vD16 vD17 vD18 vD19 vD20 vD21 vD22) A) A) ([.ref aD.1, .int i1] : List Value).toArray s 0 0 A) (F0 m 35 ls [.int t1, .ref aD.1]) := by
    clear h hP hD hS hl
    intro c0_5 c0_6 c0_7 c0_13 c0_14 y1 y2 t1 H locs ls h hP hD hS hl
    unfold pX10_readReference_j35 at h
    obtain ⟨q4, h3, h⟩ := Option.bind_eq_some_iff.mp h
    refine kcvw (ws' := (wMD cC cI aD vD0 vD1 vD2 vD3 vD4 q4.1 q4.2 c0_7 vD8 vD9 vD10 vD11 vD12 c0_13 c0_14 vD15 vD16 vD17 vD18 vD19 vD20 vD21 vD22)) [0, 1, 2, 3, 4, 5, 6, 7, 8, 9, 10] (va_runV (As := [.int t1]) (rest := []) ⟨hx, hb, hml, hown, hts⟩ (kX10_needs l D cI cC cS aD vD0 vD1 vD2 vD3 vD4 c0_5 c0_6 c0_7 vD8 vD9 vD10 vD11 vD12 c0_13 c0_14 vD15 vD16 vD17 vD18 vD19 vD20 vD21 vD22 t1 H.size h3) (cwV 1 hts gX10_readReference_X10_needs rfl rfl rfl (by decide +kernel) ⟨Nat.le_of_ble_eq_true rfl, Nat.le_of_ble_eq_true rfl⟩) (kpreV hK hN hP hD [0, 1, 2, 3, 4, 5, 6, 7, 8, 9, 10] rfl (by decide) 10 rfl rfl) rfl rfl hl.1 rfl (lv_room (Nat.le_of_ble_eq_true rfl)) dX10_readReference_35 ⟨Nat.le_refl _, Nat.le_refl _⟩) hP hD hS hA rfl (by decide) rfl [1, 2, 3, 4, 5, 6, 7, 8, 9, 10, 11] (by decide +kernel) rfl (fun H locs hP hD hS => ?_)
    refine lv_aload_n hx hb dX10_readReference_38 rfl (lv_at hl 0 rfl) ?_
    refine lv_bipush (v := (58 : Int32)) hx hb dX10_readReference_39 (by decide) ?_
    obtain ⟨q6, h5, h⟩ := Option.bind_eq_some_iff.mp h
    refine kcvw (ws' := (wMD cC cI aD vD0 vD1 vD2 vD3 vD4 q6.1 q6.2 c0_7 vD8 vD9 vD10 vD11 vD12 c0_13 c0_14 vD15 vD16 vD17 vD18 vD19 vD20 vD21 vD22)) [0, 1, 2, 3, 4, 5, 6, 7, 8, 9, 10] (va_runV (As := [.int (58 : Int32)]) (rest := []) ⟨hx, hb, hml, hown, hts⟩ (kX10_sign l D cI cC cS aD vD0 vD1 vD2 vD3 vD4 q4.1 q4.2 c0_7 vD8 vD9 vD10 vD11 vD12 c0_13 c0_14 vD15 vD16 vD17 vD18 vD19 vD20 vD21 vD22 (58 : Int32) H.size h5) (cwV 1 hts gX10_readReference_X10_sign rfl rfl rfl (by decide +kernel) ⟨Nat.le_of_ble_eq_true rfl, Nat.le_of_ble_eq_true rfl⟩) (kpreV hK hN hP hD [0, 1, 2, 3, 4, 5, 6, 7, 8, 9, 10] rfl (by decide) 10 rfl rfl) rfl rfl hl.1 rfl (lv_room (Nat.le_of_ble_eq_true rfl)) dX10_readReference_41 ⟨Nat.le_refl _, Nat.le_refl _⟩) hP hD hS hA rfl (by decide) rfl [1, 2, 3, 4, 5, 6, 7, 8, 9, 10, 11] (by decide +kernel) rfl (fun H locs hP hD hS => ?_)
    refine lv_aload_n hx hb dX10_readReference_44 rfl (lv_at hl 0 rfl) ?_
    obtain ⟨q8, h7, h⟩ := Option.bind_eq_some_iff.mp h
    refine kciw (ws' := (wMD cC cI aD vD0 vD1 vD2 vD3 vD4 q8.2.1 q8.2.2.1 q8.2.2.2 vD8 vD9 vD10 vD11 vD12 c0_13 c0_14 vD15 vD16 vD17 vD18 vD19 vD20 vD21 vD22)) [0, 1, 2, 3, 4, 5, 6, 7, 8, 9, 10] (va_runV (As := []) (rest := []) ⟨hx, hb, hml, hown, hts⟩ (kX10_number l D cI cC cS aD vD0 vD1 vD2 vD3 vD4 q6.1 q6.2 c0_7 vD8 vD9 vD10 vD11 vD12 c0_13 c0_14 vD15 vD16 vD17 vD18 vD19 vD20 vD21 vD22 H.size h7) (cwV 0 hts gX10_readReference_X10_number rfl rfl rfl (by decide +kernel) ⟨Nat.le_of_ble_eq_true rfl, Nat.le_of_ble_eq_true rfl⟩) (kpreV hK hN hP hD [0, 1, 2, 3, 4, 5, 6, 7, 8, 9, 10] rfl (by decide) 10 rfl rfl) rfl rfl hl.1 rfl (lv_room (Nat.le_of_ble_eq_true rfl)) dX10_readReference_45 ⟨Nat.le_refl _, Nat.le_refl _⟩) hP hD hS hA rfl (by decide) rfl [1, 2, 3, 4, 5, 6, 7, 8, 9, 10, 11] (by decide +kernel) rfl (fun H locs hP hD hS => ?_)
    refine lv_istore_n (lv' := [(3, .int q8.1), (0, .ref aD.1), (1, .int y1), (2, .int y2)]) hx hb dX10_readReference_48 rfl hl (by decide) rfl (fun ls hl => ?_)
    refine lv_aload_n hx hb dX10_readReference_49 rfl (lv_at hl 1 rfl) ?_
    refine lv_aload_n hx hb dX10_readReference_50 rfl (lv_at hl 1 rfl) ?_
    refine va_get (D := D) (ci := 10) (v := .int q8.2.2.1) (C := RX10) (T := TX10) (N := 23) hx hb hts huX10 hown hK hP 0 rfl rfl 6 (by decide) (hts (.fieldLink RX10 109 "VerseColumnsModel" "isGood" "Z") (by decide +kernel)) (fun _ h9 => h9) rfl dX10_readReference_51 ?_
    refine lv_if_eq (tgt := 71) hx hb dX10_readReference_54 (by decide) (fun g => ?_) (fun g => ?_)
    · rw [if_pos g] at h
      exact j71 q8.2.1 q8.2.2.1 q8.2.2.2 c0_13 c0_14 y1 y2 q8.1 _ _ _ h hP hD hS (lv_sub hl [1, 2, 3, 0] rfl)
    · rw [if_neg g] at h
      refine lv_iload_n hx hb dX10_readReference_57 rfl (lv_at hl 0 rfl) ?_
      refine lv_aload_n hx hb dX10_readReference_58 rfl (lv_at hl 1 rfl) ?_
      refine lv_iload_n hx hb dX10_readReference_59 rfl (lv_at hl 2 rfl) ?_
      refine lv_iload_n hx hb dX10_readReference_60 rfl (lv_at hl 3 rfl) ?_
      obtain ⟨q42, h41, h⟩ := Option.bind_eq_some_iff.mp h
      refine kcir [0, 1, 2, 3, 4, 5, 6, 7, 8, 9, 10] (va_runV (As := [.int y1, .int y2]) (rest := [.int q8.1, .ref aD.1]) ⟨hx, hb, hml, hown, hts⟩ (kX10_versesOf l D cI cC cS aD vD0 vD1 vD2 vD3 vD4 q8.2.1 q8.2.2.1 q8.2.2.2 vD8 vD9 vD10 vD11 vD12 c0_13 c0_14 vD15 vD16 vD17 vD18 vD19 vD20 vD21 vD22 y1 y2 H.size h41) (cwV 2 hts gX10_readReference_X10_versesOf rfl rfl rfl (by decide +kernel) ⟨Nat.le_of_ble_eq_true rfl, Nat.le_of_ble_eq_true rfl⟩) (kpreV hK hN hP hD [0, 1, 2, 3, 4, 5, 6, 7, 8, 9, 10] rfl (by decide) 10 rfl rfl) rfl rfl hl.1 rfl (lv_room (Nat.le_of_ble_eq_true rfl)) dX10_readReference_61 ⟨Nat.le_refl _, Nat.le_refl _⟩) hP hD hS hA rfl (fun H locs hP hS => ?_)
      refine lv_icmp_gt (tgt := 71) hx hb dX10_readReference_64 (by decide) (fun g => ?_) (fun g => ?_)
      · rw [if_pos g] at h
        exact j71 q8.2.1 q8.2.2.1 q8.2.2.2 c0_13 c0_14 y1 y2 q8.1 _ _ _ h hP hD hS (lv_sub hl [1, 2, 3, 0] rfl)
      · rw [if_neg g] at h
        refine lv_iconst (v := (1 : Int32)) hx hb dX10_readReference_67 (by decide) ?_
        refine lv_goto (tgt := 72) hx hb dX10_readReference_68 (by decide) ?_
        exact j72 q8.2.1 q8.2.2.1 q8.2.2.2 c0_13 c0_14 y1 y2 q8.1 (1 : Int32) _ _ _ h hP hD hS (lv_sub hl [1, 2, 3, 0] rfl)
  unfold pX10_readReference at h
  refine lv_aload_n hx hb dX10_readReference_0 rfl (lv_at hl 0 rfl) ?_
  refine lv_iconst (v := (0 : Int32)) hx hb dX10_readReference_1 (by decide) ?_
  refine va_put (D := D) (ci := 10) (v := .int (0 : Int32)) (ty := .int) (C := RX10) (T := TX10) (N := 23) hx hb hts huX10 tyX10 tyX10_ok nmX10 hown hK hP hD hS 0 rfl rfl 5 (by decide) (hts (.fieldLink RX10 103 "VerseColumnsModel" "place" "I") (by decide +kernel)) (fun _ h9 => h9) rfl (by decide +kernel) rfl rfl (Nat.le_of_ble_eq_true rfl) dX10_readReference_2 (fun H locs hP hD hS => ?_)
  have hP : va_P D vwCl (wMD cC cI aD vD0 vD1 vD2 vD3 vD4 (0 : Int32) vD6 vD7 vD8 vD9 vD10 vD11 vD12 vD13 vD14 vD15 vD16 vD17 vD18 vD19 vD20 vD21 vD22) H := hP
  have hD : va_D A (wMD cC cI aD vD0 vD1 vD2 vD3 vD4 (0 : Int32) vD6 vD7 vD8 vD9 vD10 vD11 vD12 vD13 vD14 vD15 vD16 vD17 vD18 vD19 vD20 vD21 vD22) := hD
  refine lv_aload_n hx hb dX10_readReference_5 rfl (lv_at hl 0 rfl) ?_
  refine lv_iconst (v := (1 : Int32)) hx hb dX10_readReference_6 (by decide) ?_
  refine va_put (D := D) (ci := 10) (v := .int (1 : Int32)) (ty := .boolean) (C := RX10) (T := TX10) (N := 23) hx hb hts huX10 tyX10 tyX10_ok nmX10 hown hK hP hD hS 0 rfl rfl 6 (by decide) (hts (.fieldLink RX10 109 "VerseColumnsModel" "isGood" "Z") (by decide +kernel)) (fun _ h9 => h9) rfl (by decide +kernel) rfl rfl (Nat.le_of_ble_eq_true rfl) dX10_readReference_7 (fun H locs hP hD hS => ?_)
  have hP : va_P D vwCl (wMD cC cI aD vD0 vD1 vD2 vD3 vD4 (0 : Int32) (1 : Int32) vD7 vD8 vD9 vD10 vD11 vD12 vD13 vD14 vD15 vD16 vD17 vD18 vD19 vD20 vD21 vD22) H := hP
  have hD : va_D A (wMD cC cI aD vD0 vD1 vD2 vD3 vD4 (0 : Int32) (1 : Int32) vD7 vD8 vD9 vD10 vD11 vD12 vD13 vD14 vD15 vD16 vD17 vD18 vD19 vD20 vD21 vD22) := hD
  refine lv_aload_n hx hb dX10_readReference_10 rfl (lv_at hl 0 rfl) ?_
  obtain ⟨q2, h1, h⟩ := Option.bind_eq_some_iff.mp h
  refine kciw (ws' := (wMD cC cI aD vD0 vD1 vD2 vD3 vD4 q2.2.1 q2.2.2.1 q2.2.2.2 vD8 vD9 vD10 vD11 vD12 vD13 vD14 vD15 vD16 vD17 vD18 vD19 vD20 vD21 vD22)) [0, 1, 2, 3, 4, 5, 6, 7, 8, 9, 10] (va_runV (As := []) (rest := []) ⟨hx, hb, hml, hown, hts⟩ (kX10_number l D cI cC cS aD vD0 vD1 vD2 vD3 vD4 (0 : Int32) (1 : Int32) vD7 vD8 vD9 vD10 vD11 vD12 vD13 vD14 vD15 vD16 vD17 vD18 vD19 vD20 vD21 vD22 H.size h1) (cwV 0 hts gX10_readReference_X10_number rfl rfl rfl (by decide +kernel) ⟨Nat.le_of_ble_eq_true rfl, Nat.le_of_ble_eq_true rfl⟩) (kpreV hK hN hP hD [0, 1, 2, 3, 4, 5, 6, 7, 8, 9, 10] rfl (by decide) 10 rfl rfl) rfl rfl hl.1 rfl (lv_room (Nat.le_of_ble_eq_true rfl)) dX10_readReference_11 ⟨Nat.le_refl _, Nat.le_refl _⟩) hP hD hS hA rfl (by decide) rfl [1, 2, 3, 4, 5, 6, 7, 8, 9, 10, 11] (by decide +kernel) rfl (fun H locs hP hD hS => ?_)
  refine lv_istore_n (lv' := [(2, .int q2.1), (0, .ref aD.1), (1, .int i1)]) hx hb dX10_readReference_14 rfl hl (by decide) rfl (fun ls hl => ?_)
  refine lv_aload_n hx hb dX10_readReference_15 rfl (lv_at hl 1 rfl) ?_
  refine lv_iload_n hx hb dX10_readReference_16 rfl (lv_at hl 0 rfl) ?_
  refine lv_aload_n hx hb dX10_readReference_17 rfl (lv_at hl 1 rfl) ?_
  refine va_get (D := D) (ci := 10) (v := .ref aD.2.1) (C := RX10) (T := TX10) (N := 23) hx hb hts huX10 hown hK hP 0 rfl rfl 0 (by decide) (hts (.fieldLink RX10 7 "VerseColumnsModel" "row" "[I") (by decide +kernel)) (fun _ h9 => h9) rfl dX10_readReference_18 ?_
  refine lv_sipush (v := (362 : Int32)) hx hb dX10_readReference_21 (by decide) ?_
  refine lv_iload_n hx hb dX10_readReference_24 rfl (lv_at hl 2 rfl) ?_
  refine lv_iadd hx hb dX10_readReference_25 ?_
  obtain ⟨g, h⟩ := kif h
  refine va_iald hx hb hK hP 1 0 rfl rfl (kin g) dX10_readReference_26 ?_
  refine lv_icmp_gt (tgt := 34) hx hb dX10_readReference_27 (by decide) (fun g => ?_) (fun g => ?_)
  · rw [if_pos g] at h
    refine lv_iconst (v := (0 : Int32)) hx hb dX10_readReference_34 (by decide) ?_
    exact j35 q2.2.1 q2.2.2.1 q2.2.2.2 vD13 vD14 i1 q2.1 (0 : Int32) _ _ _ h hP hD hS (lv_sub hl [1, 2, 0] rfl)
  · rw [if_neg g] at h
    refine lv_iconst (v := (1 : Int32)) hx hb dX10_readReference_30 (by decide) ?_
    refine lv_goto (tgt := 35) hx hb dX10_readReference_31 (by decide) ?_
    exact j35 q2.2.1 q2.2.2.1 q2.2.2.2 vD13 vD14 i1 q2.1 (1 : Int32) _ _ _ h hP hD hS (lv_sub hl [1, 2, 0] rfl)
