-- walks of the law's helpers (printed by wip/p24/gen/g3.py)
set_option maxHeartbeats 8000000 in
set_option maxRecDepth 100000 in
theorem kL_groups (l : Launch) (D : va_G) (cI cC cS : ClassId) (lo aV : Nat) (vO0 : Sg) (X : va_W) (i2 : Int32) {q : Int32} (h : pL_groups vO0 i2 = some q) : kAc l yL_groups wsL_groups ({ frames := 7, cells := 1, slots := 4, locals := 160 } : Room) D (kTy cI cC cS) lo [.ref aV, .int i2] (aW D cI cC cS lo aV vO0 X) (aW D cI cC cS lo aV vO0 X) q 1 4 := by
  refine Met.ofW (cc := cL_groups) (maxL := 14) (ret := (some .boolean)) (by decide) rfl ?_
  intro p e s m args below meth c s₁ B hml hv
  obtain ⟨rfl, hP, hK, hN, hz⟩ := hv
  have hx := B.exec
  have hb := B.bytes
  have hr := B.returns
  have hts := atoms_spec (ws := wsL_groups) B.pre
  have hown : s.vm.findClass RL = some m.cls := findClass_of_methodNamed B.named
  have hlocks := B.notSynchronized
  have hS : va_S (fun q => lo ≤ q) s.heap s.heap [] := va_S.rf
  have hl := lv_entry ([.ref aV, .int i2]) (n := 14) (Nat.le_of_ble_eq_true rfl)
  rw [lg_entry_eq]
  generalize (lg_sl ([.ref aV, .int i2]) ++ List.replicate (14 - (lg_sl ([.ref aV, .int i2])).length) Slot.unset).toArray = ls at hl ⊢
  have hl : lv_has ls 14 [(0, .ref aV), (1, .int i2)] := hl
  unfold pL_groups at h
  refine lv_iconst (v := (0 : Int32)) hx hb dL_groups_0 (by decide) ?_
  refine lv_istore_n (lv' := [(2, .int (0 : Int32)), (0, .ref aV), (1, .int i2)]) hx hb dL_groups_1 rfl hl (by decide) rfl (fun ls hl => ?_)
  refine lv_iconst (v := (0 : Int32)) hx hb dL_groups_2 (by decide) ?_
  refine lv_istore_n (lv' := [(3, .int (0 : Int32)), (2, .int (0 : Int32)), (0, .ref aV), (1, .int i2)]) hx hb dL_groups_3 rfl hl (by decide) rfl (fun ls hl => ?_)
  refine lv_iconst (v := (0 : Int32)) hx hb dL_groups_4 (by decide) ?_
  refine lv_istore (lv' := [(4, .int (0 : Int32)), (3, .int (0 : Int32)), (2, .int (0 : Int32)), (0, .ref aV), (1, .int i2)]) hx hb dL_groups_5 hl (by decide) rfl (fun ls hl => ?_)
  refine lv_iconst (v := (4 : Int32)) hx hb dL_groups_7 (by decide) ?_
  refine aW_new hx hb (hts (.arrayClass .int) (by decide +kernel)) hK hP hS hz (n := 4) (by decide) (by decide) (by decide) (Nat.le_of_ble_eq_true rfl) (Nat.le_of_ble_eq_true rfl) dL_groups_8 (fun aK H hP hS => ?_)
  have hP : (aW D cI cC cS lo aV vO0 (X ++ wAR cI aK 4 z0)) H := hP
  have j539 : ∀ (c1_0 : (Nat → Int32)) (y2 : Int32) (y3 : Int32) (t0 : Int32) (H : Heap) (locs : List Loc) (ls : Array Slot), pL_groups_j539 vO0 c1_0 y2 y3 t0 = some q → (aW D cI cC cS lo aV vO0 (X ++ wAR cI aK 4 c1_0)) H → va_S (fun q => lo ≤ q) s.heap H locs → lv_has ls 14 [(0, .ref aV), (2, .int y2), (3, .int y3)] → W p l e ({ frames := 7, cells := 1, slots := 4, locals := 160 } : Room) s m ([.ref aV, .int i2] : List Value).toArray below meth c H locs 1 4 (MQ below (va_Qi (fun (r : Int32) (_ : Unit) => r = q) (fun _ t => (aW D cI cC cS lo aV vO0 X) t.heap) (fun q => lo ≤ q)) ([.ref aV, .int i2] : List Value).toArray s 1 4 (fun q => lo ≤ q)) (F0 m 539 ls [.int t0]) := by
    clear h hP hS hl
    intro c1_0 y2 y3 t0 H locs ls h hP hS hl
    unfold pL_groups_j539 at h
    refine lv_istore (lv' := [(6, .int t0), (0, .ref aV), (2, .int y2), (3, .int y3)]) hx hb dL_groups_539 hl (by decide) rfl (fun ls hl => ?_)
    refine lv_iload hx hb dL_groups_541 (lv_at hl 0 rfl) ?_
    refine lv_if_eq (tgt := 597) hx hb dL_groups_543 (by decide) (fun g => ?_) (fun g => ?_)
    · rw [if_pos g] at h
      refine lv_iconst (v := (0 : Int32)) hx hb dL_groups_597 (by decide) ?_
      obtain rfl := Option.some.inj h
      exact W.zret (v := (0 : Int32)) hx hb hr rfl (fun t ht hW => ⟨⟨_, (), rfl, rfl, by dsimp only; rw [ht]; exact hP.sub⟩, hS.F ht⟩) hS.2.2 dL_groups_598
    · rw [if_neg g] at h
      refine lv_iload_n hx hb dL_groups_546 rfl (lv_at hl 2 rfl) ?_
      refine lv_aload_n hx hb dL_groups_547 rfl (lv_at hl 1 rfl) ?_
      refine lv_iconst (v := (2 : Int32)) hx hb dL_groups_548 (by decide) ?_
      obtain ⟨q6, h5, h⟩ := Option.bind_eq_some_iff.mp h
      refine kciA (va_runV (As := [.int (2 : Int32)]) (rest := [.int y2]) ⟨hx, hb, hml, hown, hts⟩ (aX9_count l D cI cC cS lo aV vO0 (X ++ wAR cI aK 4 c1_0) (2 : Int32) h5) (cwV 1 hts gL_groups_X9_count rfl rfl rfl (by decide +kernel) ⟨Nat.le_of_ble_eq_true rfl, Nat.le_of_ble_eq_true rfl⟩) (kpreVA hP hK hN (Nat.le_trans hz hS.1)) rfl rfl hl.1 rfl (lv_room (Nat.le_of_ble_eq_true rfl)) dL_groups_549 ⟨Nat.le_of_ble_eq_true rfl, Nat.le_of_ble_eq_true rfl⟩) hS (fun H locs hP hS => ?_)
      refine lv_icmp_ne (tgt := 597) hx hb dL_groups_552 (by decide) (fun g => ?_) (fun g => ?_)
      · rw [if_neg g] at h
        refine lv_iconst (v := (0 : Int32)) hx hb dL_groups_597 (by decide) ?_
        obtain rfl := Option.some.inj h
        exact W.zret (v := (0 : Int32)) hx hb hr rfl (fun t ht hW => ⟨⟨_, (), rfl, rfl, by dsimp only; rw [ht]; exact hP.sub⟩, hS.F ht⟩) hS.2.2 dL_groups_598
      · rw [if_pos g] at h
        refine lv_iload_n hx hb dL_groups_555 rfl (lv_at hl 3 rfl) ?_
        refine lv_aload_n hx hb dL_groups_556 rfl (lv_at hl 1 rfl) ?_
        refine lv_iconst (v := (3 : Int32)) hx hb dL_groups_557 (by decide) ?_
        obtain ⟨q8, h7, h⟩ := Option.bind_eq_some_iff.mp h
        refine kciA (va_runV (As := [.int (3 : Int32)]) (rest := [.int y3]) ⟨hx, hb, hml, hown, hts⟩ (aX9_count l D cI cC cS lo aV vO0 (X ++ wAR cI aK 4 c1_0) (3 : Int32) h7) (cwV 1 hts gL_groups_X9_count rfl rfl rfl (by decide +kernel) ⟨Nat.le_of_ble_eq_true rfl, Nat.le_of_ble_eq_true rfl⟩) (kpreVA hP hK hN (Nat.le_trans hz hS.1)) rfl rfl hl.1 rfl (lv_room (Nat.le_of_ble_eq_true rfl)) dL_groups_558 ⟨Nat.le_of_ble_eq_true rfl, Nat.le_of_ble_eq_true rfl⟩) hS (fun H locs hP hS => ?_)
        refine lv_icmp_ne (tgt := 597) hx hb dL_groups_561 (by decide) (fun g => ?_) (fun g => ?_)
        · rw [if_neg g] at h
          refine lv_iconst (v := (0 : Int32)) hx hb dL_groups_597 (by decide) ?_
          obtain rfl := Option.some.inj h
          exact W.zret (v := (0 : Int32)) hx hb hr rfl (fun t ht hW => ⟨⟨_, (), rfl, rfl, by dsimp only; rw [ht]; exact hP.sub⟩, hS.F ht⟩) hS.2.2 dL_groups_598
        · rw [if_pos g] at h
          refine lv_aload_n hx hb dL_groups_564 rfl (lv_at hl 1 rfl) ?_
          refine lv_aload_n hx hb dL_groups_565 rfl (lv_at hl 1 rfl) ?_
          refine lv_iconst (v := (4 : Int32)) hx hb dL_groups_566 (by decide) ?_
          obtain ⟨q10, h9, h⟩ := Option.bind_eq_some_iff.mp h
          refine kciA (va_runV (As := [.int (4 : Int32)]) (rest := [.ref aV]) ⟨hx, hb, hml, hown, hts⟩ (aX9_count l D cI cC cS lo aV vO0 (X ++ wAR cI aK 4 c1_0) (4 : Int32) h9) (cwV 1 hts gL_groups_X9_count rfl rfl rfl (by decide +kernel) ⟨Nat.le_of_ble_eq_true rfl, Nat.le_of_ble_eq_true rfl⟩) (kpreVA hP hK hN (Nat.le_trans hz hS.1)) rfl rfl hl.1 rfl (lv_room (Nat.le_of_ble_eq_true rfl)) dL_groups_567 ⟨Nat.le_of_ble_eq_true rfl, Nat.le_of_ble_eq_true rfl⟩) hS (fun H locs hP hS => ?_)
          refine lv_iconst (v := (0 : Int32)) hx hb dL_groups_570 (by decide) ?_
          obtain ⟨q12, h11, h⟩ := Option.bind_eq_some_iff.mp h
          refine kciA (va_runV (As := [.int q10, .int (0 : Int32)]) (rest := []) ⟨hx, hb, hml, hown, hts⟩ (aX9_group l D cI cC cS lo aV vO0 (X ++ wAR cI aK 4 c1_0) q10 (0 : Int32) h11) (cwV 2 hts gL_groups_X9_group rfl rfl rfl (by decide +kernel) ⟨Nat.le_of_ble_eq_true rfl, Nat.le_of_ble_eq_true rfl⟩) (kpreVA hP hK hN (Nat.le_trans hz hS.1)) rfl rfl hl.1 rfl (lv_room (Nat.le_of_ble_eq_true rfl)) dL_groups_571 ⟨Nat.le_of_ble_eq_true rfl, Nat.le_of_ble_eq_true rfl⟩) hS (fun H locs hP hS => ?_)
          refine lv_iconst (v := (-1 : Int32)) hx hb dL_groups_574 (by decide) ?_
          refine lv_icmp_ne (tgt := 597) hx hb dL_groups_575 (by decide) (fun g => ?_) (fun g => ?_)
          · rw [if_neg g] at h
            refine lv_iconst (v := (0 : Int32)) hx hb dL_groups_597 (by decide) ?_
            obtain rfl := Option.some.inj h
            exact W.zret (v := (0 : Int32)) hx hb hr rfl (fun t ht hW => ⟨⟨_, (), rfl, rfl, by dsimp only; rw [ht]; exact hP.sub⟩, hS.F ht⟩) hS.2.2 dL_groups_598
          · rw [if_pos g] at h
            refine lv_aload_n hx hb dL_groups_578 rfl (lv_at hl 1 rfl) ?_
            refine lv_iconst (v := (0 : Int32)) hx hb dL_groups_579 (by decide) ?_
            refine lv_aload_n hx hb dL_groups_580 rfl (lv_at hl 1 rfl) ?_
            refine lv_iconst (v := (2 : Int32)) hx hb dL_groups_581 (by decide) ?_
            obtain ⟨q14, h13, h⟩ := Option.bind_eq_some_iff.mp h
            refine kciA (va_runV (As := [.int (2 : Int32)]) (rest := [.int (0 : Int32), .ref aV]) ⟨hx, hb, hml, hown, hts⟩ (aX9_count l D cI cC cS lo aV vO0 (X ++ wAR cI aK 4 c1_0) (2 : Int32) h13) (cwV 1 hts gL_groups_X9_count rfl rfl rfl (by decide +kernel) ⟨Nat.le_of_ble_eq_true rfl, Nat.le_of_ble_eq_true rfl⟩) (kpreVA hP hK hN (Nat.le_trans hz hS.1)) rfl rfl hl.1 rfl (lv_room (Nat.le_of_ble_eq_true rfl)) dL_groups_582 ⟨Nat.le_of_ble_eq_true rfl, Nat.le_of_ble_eq_true rfl⟩) hS (fun H locs hP hS => ?_)
            refine lv_iconst (v := (0 : Int32)) hx hb dL_groups_585 (by decide) ?_
            obtain ⟨q16, h15, h⟩ := Option.bind_eq_some_iff.mp h
            refine kciA (va_runV (As := [.int (0 : Int32), .int q14, .int (0 : Int32)]) (rest := []) ⟨hx, hb, hml, hown, hts⟩ (aX9_beside l D cI cC cS lo aV vO0 (X ++ wAR cI aK 4 c1_0) (0 : Int32) q14 (0 : Int32) h15) (cwV 3 hts gL_groups_X9_beside rfl rfl rfl (by decide +kernel) ⟨Nat.le_of_ble_eq_true rfl, Nat.le_of_ble_eq_true rfl⟩) (kpreVA hP hK hN (Nat.le_trans hz hS.1)) rfl rfl hl.1 rfl (lv_room (Nat.le_of_ble_eq_true rfl)) dL_groups_586 ⟨Nat.le_of_ble_eq_true rfl, Nat.le_of_ble_eq_true rfl⟩) hS (fun H locs hP hS => ?_)
            refine lv_iconst (v := (-1 : Int32)) hx hb dL_groups_589 (by decide) ?_
            refine lv_icmp_ne (tgt := 597) hx hb dL_groups_590 (by decide) (fun g => ?_) (fun g => ?_)
            · rw [if_neg g] at h
              refine lv_iconst (v := (0 : Int32)) hx hb dL_groups_597 (by decide) ?_
              obtain rfl := Option.some.inj h
              exact W.zret (v := (0 : Int32)) hx hb hr rfl (fun t ht hW => ⟨⟨_, (), rfl, rfl, by dsimp only; rw [ht]; exact hP.sub⟩, hS.F ht⟩) hS.2.2 dL_groups_598
            · rw [if_pos g] at h
              refine lv_iconst (v := (1 : Int32)) hx hb dL_groups_593 (by decide) ?_
              refine lv_goto (tgt := 598) hx hb dL_groups_594 (by decide) ?_
              obtain rfl := Option.some.inj h
              exact W.zret (v := (1 : Int32)) hx hb hr rfl (fun t ht hW => ⟨⟨_, (), rfl, rfl, by dsimp only; rw [ht]; exact hP.sub⟩, hS.F ht⟩) hS.2.2 dL_groups_598
  have j538 : ∀ (c1_0 : (Nat → Int32)) (y2 : Int32) (y3 : Int32) (H : Heap) (locs : List Loc) (ls : Array Slot), pL_groups_j538 vO0 c1_0 y2 y3 = some q → (aW D cI cC cS lo aV vO0 (X ++ wAR cI aK 4 c1_0)) H → va_S (fun q => lo ≤ q) s.heap H locs → lv_has ls 14 [(0, .ref aV), (2, .int y2), (3, .int y3)] → W p l e ({ frames := 7, cells := 1, slots := 4, locals := 160 } : Room) s m ([.ref aV, .int i2] : List Value).toArray below meth c H locs 1 4 (MQ below (va_Qi (fun (r : Int32) (_ : Unit) => r = q) (fun _ t => (aW D cI cC cS lo aV vO0 X) t.heap) (fun q => lo ≤ q)) ([.ref aV, .int i2] : List Value).toArray s 1 4 (fun q => lo ≤ q)) (F0 m 538 ls []) := by
    clear h hP hS hl
    intro c1_0 y2 y3 H locs ls h hP hS hl
    unfold pL_groups_j538 at h
    refine lv_iconst (v := (0 : Int32)) hx hb dL_groups_538 (by decide) ?_
    exact j539 c1_0 y2 y3 (0 : Int32) _ _ _ h hP hS (lv_sub hl [0, 1, 2] rfl)
  have L15 : ∀ (nL15 : Nat) (c1_0 : (Nat → Int32)) (y1 : Int32) (y2 : Int32) (y3 : Int32) (y4 : Int32) (y6 : Int32) (H : Heap) (locs : List Loc) (ls : Array Slot), pL_groups_L15 vO0 nL15 c1_0 y1 y2 y3 y4 y6 = some q → (aW D cI cC cS lo aV vO0 (X ++ wAR cI aK 4 c1_0)) H → va_S (fun q => lo ≤ q) s.heap H locs → lv_has ls 14 [(0, .ref aV), (1, .int y1), (2, .int y2), (3, .int y3), (4, .int y4), (5, .ref aK), (6, .int y6)] → W p l e ({ frames := 7, cells := 1, slots := 4, locals := 160 } : Room) s m ([.ref aV, .int i2] : List Value).toArray below meth c H locs 1 4 (MQ below (va_Qi (fun (r : Int32) (_ : Unit) => r = q) (fun _ t => (aW D cI cC cS lo aV vO0 X) t.heap) (fun q => lo ≤ q)) ([.ref aV, .int i2] : List Value).toArray s 1 4 (fun q => lo ≤ q)) (F0 m 15 ls []) := by
    clear h hP hS hl
    intro nL15
    induction nL15 with
    | zero => intro c1_0 y1 y2 y3 y4 y6 H locs ls h; have h : (none : Option (Int32)) = some q := h; cases h
    | succ nL15 ihL15 =>
      have j425 : ∀ (c1_0 : (Nat → Int32)) (y1 : Int32) (y2 : Int32) (y3 : Int32) (y4 : Int32) (y6 : Int32) (y7 : Int32) (y8 : Int32) (y12 : Int32) (t0 : Int32) (t1 : Int32) (H : Heap) (locs : List Loc) (ls : Array Slot), pL_groups_j425 vO0 (pL_groups_L15 vO0 nL15) c1_0 y1 y2 y3 y4 y6 y7 y8 y12 t0 t1 = some q → (aW D cI cC cS lo aV vO0 (X ++ wAR cI aK 4 c1_0)) H → va_S (fun q => lo ≤ q) s.heap H locs → lv_has ls 14 [(0, .ref aV), (1, .int y1), (2, .int y2), (3, .int y3), (4, .int y4), (5, .ref aK), (6, .int y6), (7, .int y7), (8, .int y8), (12, .int y12)] → W p l e ({ frames := 7, cells := 1, slots := 4, locals := 160 } : Room) s m ([.ref aV, .int i2] : List Value).toArray below meth c H locs 1 4 (MQ below (va_Qi (fun (r : Int32) (_ : Unit) => r = q) (fun _ t => (aW D cI cC cS lo aV vO0 X) t.heap) (fun q => lo ≤ q)) ([.ref aV, .int i2] : List Value).toArray s 1 4 (fun q => lo ≤ q)) (F0 m 425 ls [.int t1, .int t0]) := by
        skip
        intro c1_0 y1 y2 y3 y4 y6 y7 y8 y12 t0 t1 H locs ls h hP hS hl
        unfold pL_groups_j425 at h
        refine lv_icmp_ne (tgt := 454) hx hb dL_groups_425 (by decide) (fun g => ?_) (fun g => ?_)
        · rw [if_neg g] at h
          refine lv_iconst (v := (0 : Int32)) hx hb dL_groups_454 (by decide) ?_
          obtain rfl := Option.some.inj h
          exact W.zret (v := (0 : Int32)) hx hb hr rfl (fun t ht hW => ⟨⟨_, (), rfl, rfl, by dsimp only; rw [ht]; exact hP.sub⟩, hS.F ht⟩) hS.2.2 dL_groups_455
        · rw [if_pos g] at h
          refine lv_aload_n hx hb dL_groups_428 rfl (lv_at hl 0 rfl) ?_
          refine lv_iload hx hb dL_groups_429 (lv_at hl 6 rfl) ?_
          refine lv_bipush (v := (8 : Int32)) hx hb dL_groups_431 (by decide) ?_
          obtain ⟨q42, h41, h⟩ := Option.bind_eq_some_iff.mp h
          refine kciA (va_runV (As := [.int y6, .int (8 : Int32)]) (rest := []) ⟨hx, hb, hml, hown, hts⟩ (aX9_group l D cI cC cS lo aV vO0 (X ++ wAR cI aK 4 c1_0) y6 (8 : Int32) h41) (cwV 2 hts gL_groups_X9_group rfl rfl rfl (by decide +kernel) ⟨Nat.le_of_ble_eq_true rfl, Nat.le_of_ble_eq_true rfl⟩) (kpreVA hP hK hN (Nat.le_trans hz hS.1)) rfl rfl hl.1 rfl (lv_room (Nat.le_of_ble_eq_true rfl)) dL_groups_433 ⟨Nat.le_of_ble_eq_true rfl, Nat.le_of_ble_eq_true rfl⟩) hS (fun H locs hP hS => ?_)
          refine lv_iload hx hb dL_groups_436 (lv_at hl 9 rfl) ?_
          refine lv_icmp_ne (tgt := 454) hx hb dL_groups_438 (by decide) (fun g => ?_) (fun g => ?_)
          · rw [if_neg g] at h
            refine lv_iconst (v := (0 : Int32)) hx hb dL_groups_454 (by decide) ?_
            obtain rfl := Option.some.inj h
            exact W.zret (v := (0 : Int32)) hx hb hr rfl (fun t ht hW => ⟨⟨_, (), rfl, rfl, by dsimp only; rw [ht]; exact hP.sub⟩, hS.F ht⟩) hS.2.2 dL_groups_455
          · rw [if_pos g] at h
            refine lv_aload_n hx hb dL_groups_441 rfl (lv_at hl 0 rfl) ?_
            refine lv_iload hx hb dL_groups_442 (lv_at hl 6 rfl) ?_
            refine lv_bipush (v := (9 : Int32)) hx hb dL_groups_444 (by decide) ?_
            obtain ⟨q44, h43, h⟩ := Option.bind_eq_some_iff.mp h
            refine kciA (va_runV (As := [.int y6, .int (9 : Int32)]) (rest := []) ⟨hx, hb, hml, hown, hts⟩ (aX9_group l D cI cC cS lo aV vO0 (X ++ wAR cI aK 4 c1_0) y6 (9 : Int32) h43) (cwV 2 hts gL_groups_X9_group rfl rfl rfl (by decide +kernel) ⟨Nat.le_of_ble_eq_true rfl, Nat.le_of_ble_eq_true rfl⟩) (kpreVA hP hK hN (Nat.le_trans hz hS.1)) rfl rfl hl.1 rfl (lv_room (Nat.le_of_ble_eq_true rfl)) dL_groups_446 ⟨Nat.le_of_ble_eq_true rfl, Nat.le_of_ble_eq_true rfl⟩) hS (fun H locs hP hS => ?_)
            refine lv_bipush (v := (-2 : Int32)) hx hb dL_groups_449 (by decide) ?_
            refine lv_icmp_eq (tgt := 456) hx hb dL_groups_451 (by decide) (fun g => ?_) (fun g => ?_)
            · rw [if_pos g] at h
              refine lv_iload_n hx hb dL_groups_456 rfl (lv_at hl 2 rfl) ?_
              refine lv_iload hx hb dL_groups_457 (lv_at hl 7 rfl) ?_
              refine lv_iadd hx hb dL_groups_459 ?_
              refine lv_istore_n (lv' := [(2, .int (y2 + y7)), (0, .ref aV), (1, .int y1), (3, .int y3), (4, .int y4), (5, .ref aK), (6, .int y6), (7, .int y7), (8, .int y8), (12, .int y12)]) hx hb dL_groups_460 rfl hl (by decide) rfl (fun ls hl => ?_)
              refine lv_iload_n hx hb dL_groups_461 rfl (lv_at hl 3 rfl) ?_
              refine lv_iload hx hb dL_groups_462 (lv_at hl 8 rfl) ?_
              refine lv_iadd hx hb dL_groups_464 ?_
              refine lv_istore_n (lv' := [(3, .int (y3 + y8)), (2, .int (y2 + y7)), (0, .ref aV), (1, .int y1), (4, .int y4), (5, .ref aK), (6, .int y6), (7, .int y7), (8, .int y8), (12, .int y12)]) hx hb dL_groups_465 rfl hl (by decide) rfl (fun ls hl => ?_)
              refine lv_iinc (v := (y6 + (1 : Int32))) (lv' := [(6, .int (y6 + (1 : Int32))), (3, .int (y3 + y8)), (2, .int (y2 + y7)), (0, .ref aV), (1, .int y1), (4, .int y4), (5, .ref aK), (7, .int y7), (8, .int y8), (12, .int y12)]) hx hb dL_groups_466 hl (k := 6) rfl rfl (by decide) rfl (fun ls hl => ?_)
              refine lv_goto (tgt := 15) hx hb dL_groups_469 (by decide) ?_
              exact ihL15 c1_0 y1 (y2 + y7) (y3 + y8) y4 (y6 + (1 : Int32)) _ _ _ h hP hS (lv_sub hl [3, 4, 2, 1, 5, 6, 0] rfl)
            · rw [if_neg g] at h
              refine lv_iconst (v := (0 : Int32)) hx hb dL_groups_454 (by decide) ?_
              obtain rfl := Option.some.inj h
              exact W.zret (v := (0 : Int32)) hx hb hr rfl (fun t ht hW => ⟨⟨_, (), rfl, rfl, by dsimp only; rw [ht]; exact hP.sub⟩, hS.F ht⟩) hS.2.2 dL_groups_455
      have j401 : ∀ (c1_0 : (Nat → Int32)) (y1 : Int32) (y2 : Int32) (y3 : Int32) (y4 : Int32) (y6 : Int32) (y7 : Int32) (y8 : Int32) (y10 : Int32) (y11 : Int32) (y12 : Int32) (t0 : Int32) (t1 : Int32) (H : Heap) (locs : List Loc) (ls : Array Slot), pL_groups_j401 vO0 (pL_groups_L15 vO0 nL15) c1_0 y1 y2 y3 y4 y6 y7 y8 y10 y11 y12 t0 t1 = some q → (aW D cI cC cS lo aV vO0 (X ++ wAR cI aK 4 c1_0)) H → va_S (fun q => lo ≤ q) s.heap H locs → lv_has ls 14 [(0, .ref aV), (1, .int y1), (2, .int y2), (3, .int y3), (4, .int y4), (5, .ref aK), (6, .int y6), (7, .int y7), (8, .int y8), (10, .int y10), (11, .int y11), (12, .int y12)] → W p l e ({ frames := 7, cells := 1, slots := 4, locals := 160 } : Room) s m ([.ref aV, .int i2] : List Value).toArray below meth c H locs 1 4 (MQ below (va_Qi (fun (r : Int32) (_ : Unit) => r = q) (fun _ t => (aW D cI cC cS lo aV vO0 X) t.heap) (fun q => lo ≤ q)) ([.ref aV, .int i2] : List Value).toArray s 1 4 (fun q => lo ≤ q)) (F0 m 401 ls [.int t1, .int t0]) := by
        skip
        intro c1_0 y1 y2 y3 y4 y6 y7 y8 y10 y11 y12 t0 t1 H locs ls h hP hS hl
        unfold pL_groups_j401 at h
        refine lv_icmp_ne (tgt := 454) hx hb dL_groups_401 (by decide) (fun g => ?_) (fun g => ?_)
        · rw [if_neg g] at h
          refine lv_iconst (v := (0 : Int32)) hx hb dL_groups_454 (by decide) ?_
          obtain rfl := Option.some.inj h
          exact W.zret (v := (0 : Int32)) hx hb hr rfl (fun t ht hW => ⟨⟨_, (), rfl, rfl, by dsimp only; rw [ht]; exact hP.sub⟩, hS.F ht⟩) hS.2.2 dL_groups_455
        · rw [if_pos g] at h
          refine lv_aload_n hx hb dL_groups_404 rfl (lv_at hl 0 rfl) ?_
          refine lv_iload hx hb dL_groups_405 (lv_at hl 6 rfl) ?_
          refine lv_iconst (v := (5 : Int32)) hx hb dL_groups_407 (by decide) ?_
          obtain ⟨q40, h39, h⟩ := Option.bind_eq_some_iff.mp h
          refine kciA (va_runV (As := [.int y6, .int (5 : Int32)]) (rest := []) ⟨hx, hb, hml, hown, hts⟩ (aX9_group l D cI cC cS lo aV vO0 (X ++ wAR cI aK 4 c1_0) y6 (5 : Int32) h39) (cwV 2 hts gL_groups_X9_group rfl rfl rfl (by decide +kernel) ⟨Nat.le_of_ble_eq_true rfl, Nat.le_of_ble_eq_true rfl⟩) (kpreVA hP hK hN (Nat.le_trans hz hS.1)) rfl rfl hl.1 rfl (lv_room (Nat.le_of_ble_eq_true rfl)) dL_groups_408 ⟨Nat.le_of_ble_eq_true rfl, Nat.le_of_ble_eq_true rfl⟩) hS (fun H locs hP hS => ?_)
          refine lv_iload hx hb dL_groups_411 (lv_at hl 9 rfl) ?_
          refine lv_iload hx hb dL_groups_413 (lv_at hl 10 rfl) ?_
          refine lv_icmp_le (tgt := 423) hx hb dL_groups_415 (by decide) (fun g => ?_) (fun g => ?_)
          · rw [if_pos g] at h
            refine lv_iload hx hb dL_groups_423 (lv_at hl 10 rfl) ?_
            exact j425 c1_0 y1 y2 y3 y4 y6 y7 y8 y12 q40 y11 _ _ _ h hP hS (lv_sub hl [0, 1, 2, 3, 4, 5, 6, 7, 8, 11] rfl)
          · rw [if_neg g] at h
            refine lv_iload hx hb dL_groups_418 (lv_at hl 9 rfl) ?_
            refine lv_goto (tgt := 425) hx hb dL_groups_420 (by decide) ?_
            exact j425 c1_0 y1 y2 y3 y4 y6 y7 y8 y12 q40 y10 _ _ _ h hP hS (lv_sub hl [0, 1, 2, 3, 4, 5, 6, 7, 8, 11] rfl)
      have j380 : ∀ (c1_0 : (Nat → Int32)) (y1 : Int32) (y2 : Int32) (y3 : Int32) (y4 : Int32) (y6 : Int32) (y7 : Int32) (y8 : Int32) (y10 : Int32) (y11 : Int32) (y12 : Int32) (t0 : Int32) (t1 : Int32) (H : Heap) (locs : List Loc) (ls : Array Slot), pL_groups_j380 vO0 (pL_groups_L15 vO0 nL15) c1_0 y1 y2 y3 y4 y6 y7 y8 y10 y11 y12 t0 t1 = some q → (aW D cI cC cS lo aV vO0 (X ++ wAR cI aK 4 c1_0)) H → va_S (fun q => lo ≤ q) s.heap H locs → lv_has ls 14 [(0, .ref aV), (1, .int y1), (2, .int y2), (3, .int y3), (4, .int y4), (5, .ref aK), (6, .int y6), (7, .int y7), (8, .int y8), (10, .int y10), (11, .int y11), (12, .int y12)] → W p l e ({ frames := 7, cells := 1, slots := 4, locals := 160 } : Room) s m ([.ref aV, .int i2] : List Value).toArray below meth c H locs 1 4 (MQ below (va_Qi (fun (r : Int32) (_ : Unit) => r = q) (fun _ t => (aW D cI cC cS lo aV vO0 X) t.heap) (fun q => lo ≤ q)) ([.ref aV, .int i2] : List Value).toArray s 1 4 (fun q => lo ≤ q)) (F0 m 380 ls [.int t1, .int t0]) := by
        skip
        intro c1_0 y1 y2 y3 y4 y6 y7 y8 y10 y11 y12 t0 t1 H locs ls h hP hS hl
        unfold pL_groups_j380 at h
        refine lv_icmp_ne (tgt := 454) hx hb dL_groups_380 (by decide) (fun g => ?_) (fun g => ?_)
        · rw [if_neg g] at h
          refine lv_iconst (v := (0 : Int32)) hx hb dL_groups_454 (by decide) ?_
          obtain rfl := Option.some.inj h
          exact W.zret (v := (0 : Int32)) hx hb hr rfl (fun t ht hW => ⟨⟨_, (), rfl, rfl, by dsimp only; rw [ht]; exact hP.sub⟩, hS.F ht⟩) hS.2.2 dL_groups_455
        · rw [if_pos g] at h
          refine lv_aload_n hx hb dL_groups_383 rfl (lv_at hl 0 rfl) ?_
          refine lv_iload hx hb dL_groups_384 (lv_at hl 6 rfl) ?_
          refine lv_iconst (v := (3 : Int32)) hx hb dL_groups_386 (by decide) ?_
          obtain ⟨q38, h37, h⟩ := Option.bind_eq_some_iff.mp h
          refine kciA (va_runV (As := [.int y6, .int (3 : Int32)]) (rest := []) ⟨hx, hb, hml, hown, hts⟩ (aX9_group l D cI cC cS lo aV vO0 (X ++ wAR cI aK 4 c1_0) y6 (3 : Int32) h37) (cwV 2 hts gL_groups_X9_group rfl rfl rfl (by decide +kernel) ⟨Nat.le_of_ble_eq_true rfl, Nat.le_of_ble_eq_true rfl⟩) (kpreVA hP hK hN (Nat.le_trans hz hS.1)) rfl rfl hl.1 rfl (lv_room (Nat.le_of_ble_eq_true rfl)) dL_groups_387 ⟨Nat.le_of_ble_eq_true rfl, Nat.le_of_ble_eq_true rfl⟩) hS (fun H locs hP hS => ?_)
          refine lv_iload hx hb dL_groups_390 (lv_at hl 8 rfl) ?_
          refine lv_if_ne (tgt := 400) hx hb dL_groups_392 (by decide) (fun g => ?_) (fun g => ?_)
          · rw [if_neg g] at h
            refine lv_iload_n hx hb dL_groups_400 rfl (lv_at hl 3 rfl) ?_
            exact j401 c1_0 y1 y2 y3 y4 y6 y7 y8 y10 y11 y12 q38 y3 _ _ _ h hP hS (lv_sub hl [0, 1, 2, 3, 4, 5, 6, 7, 8, 9, 10, 11] rfl)
          · rw [if_pos g] at h
            refine lv_bipush (v := (-5 : Int32)) hx hb dL_groups_395 (by decide) ?_
            refine lv_goto (tgt := 401) hx hb dL_groups_397 (by decide) ?_
            exact j401 c1_0 y1 y2 y3 y4 y6 y7 y8 y10 y11 y12 q38 (-5 : Int32) _ _ _ h hP hS (lv_sub hl [0, 1, 2, 3, 4, 5, 6, 7, 8, 9, 10, 11] rfl)
      have j339 : ∀ (c1_0 : (Nat → Int32)) (y1 : Int32) (y2 : Int32) (y3 : Int32) (y6 : Int32) (y7 : Int32) (y8 : Int32) (y9 : Int32) (y10 : Int32) (y11 : Int32) (y12 : Int32) (t0 : Int32) (t1 : Int32) (H : Heap) (locs : List Loc) (ls : Array Slot), pL_groups_j339 vO0 (pL_groups_L15 vO0 nL15) c1_0 y1 y2 y3 y6 y7 y8 y9 y10 y11 y12 t0 t1 = some q → (aW D cI cC cS lo aV vO0 (X ++ wAR cI aK 4 c1_0)) H → va_S (fun q => lo ≤ q) s.heap H locs → lv_has ls 14 [(0, .ref aV), (1, .int y1), (2, .int y2), (3, .int y3), (5, .ref aK), (6, .int y6), (7, .int y7), (8, .int y8), (9, .int y9), (10, .int y10), (11, .int y11), (12, .int y12)] → W p l e ({ frames := 7, cells := 1, slots := 4, locals := 160 } : Room) s m ([.ref aV, .int i2] : List Value).toArray below meth c H locs 1 4 (MQ below (va_Qi (fun (r : Int32) (_ : Unit) => r = q) (fun _ t => (aW D cI cC cS lo aV vO0 X) t.heap) (fun q => lo ≤ q)) ([.ref aV, .int i2] : List Value).toArray s 1 4 (fun q => lo ≤ q)) (F0 m 339 ls [.int t1, .int t0]) := by
        skip
        intro c1_0 y1 y2 y3 y6 y7 y8 y9 y10 y11 y12 t0 t1 H locs ls h hP hS hl
        unfold pL_groups_j339 at h
        refine lv_iadd hx hb dL_groups_339 ?_
        refine lv_istore (lv' := [(4, .int (t0 + t1)), (0, .ref aV), (1, .int y1), (2, .int y2), (3, .int y3), (5, .ref aK), (6, .int y6), (7, .int y7), (8, .int y8), (9, .int y9), (10, .int y10), (11, .int y11), (12, .int y12)]) hx hb dL_groups_340 hl (by decide) rfl (fun ls hl => ?_)
        refine lv_iload hx hb dL_groups_342 (lv_at hl 7 rfl) ?_
        refine lv_iload hx hb dL_groups_344 (lv_at hl 8 rfl) ?_
        refine lv_iadd hx hb dL_groups_346 ?_
        refine lv_if_eq (tgt := 454) hx hb dL_groups_347 (by decide) (fun g => ?_) (fun g => ?_)
        · rw [if_pos g] at h
          refine lv_iconst (v := (0 : Int32)) hx hb dL_groups_454 (by decide) ?_
          obtain rfl := Option.some.inj h
          exact W.zret (v := (0 : Int32)) hx hb hr rfl (fun t ht hW => ⟨⟨_, (), rfl, rfl, by dsimp only; rw [ht]; exact hP.sub⟩, hS.F ht⟩) hS.2.2 dL_groups_455
        · rw [if_neg g] at h
          refine lv_aload_n hx hb dL_groups_350 rfl (lv_at hl 1 rfl) ?_
          refine lv_iload hx hb dL_groups_351 (lv_at hl 6 rfl) ?_
          refine lv_iconst (v := (0 : Int32)) hx hb dL_groups_353 (by decide) ?_
          obtain ⟨q34, h33, h⟩ := Option.bind_eq_some_iff.mp h
          refine kciA (va_runV (As := [.int y6, .int (0 : Int32)]) (rest := []) ⟨hx, hb, hml, hown, hts⟩ (aX9_group l D cI cC cS lo aV vO0 (X ++ wAR cI aK 4 c1_0) y6 (0 : Int32) h33) (cwV 2 hts gL_groups_X9_group rfl rfl rfl (by decide +kernel) ⟨Nat.le_of_ble_eq_true rfl, Nat.le_of_ble_eq_true rfl⟩) (kpreVA hP hK hN (Nat.le_trans hz hS.1)) rfl rfl hl.1 rfl (lv_room (Nat.le_of_ble_eq_true rfl)) dL_groups_354 ⟨Nat.le_of_ble_eq_true rfl, Nat.le_of_ble_eq_true rfl⟩) hS (fun H locs hP hS => ?_)
          refine lv_iload hx hb dL_groups_357 (lv_at hl 9 rfl) ?_
          refine lv_icmp_ne (tgt := 454) hx hb dL_groups_359 (by decide) (fun g => ?_) (fun g => ?_)
          · rw [if_neg g] at h
            refine lv_iconst (v := (0 : Int32)) hx hb dL_groups_454 (by decide) ?_
            obtain rfl := Option.some.inj h
            exact W.zret (v := (0 : Int32)) hx hb hr rfl (fun t ht hW => ⟨⟨_, (), rfl, rfl, by dsimp only; rw [ht]; exact hP.sub⟩, hS.F ht⟩) hS.2.2 dL_groups_455
          · rw [if_pos g] at h
            refine lv_aload_n hx hb dL_groups_362 rfl (lv_at hl 1 rfl) ?_
            refine lv_iload hx hb dL_groups_363 (lv_at hl 6 rfl) ?_
            refine lv_iconst (v := (1 : Int32)) hx hb dL_groups_365 (by decide) ?_
            obtain ⟨q36, h35, h⟩ := Option.bind_eq_some_iff.mp h
            refine kciA (va_runV (As := [.int y6, .int (1 : Int32)]) (rest := []) ⟨hx, hb, hml, hown, hts⟩ (aX9_group l D cI cC cS lo aV vO0 (X ++ wAR cI aK 4 c1_0) y6 (1 : Int32) h35) (cwV 2 hts gL_groups_X9_group rfl rfl rfl (by decide +kernel) ⟨Nat.le_of_ble_eq_true rfl, Nat.le_of_ble_eq_true rfl⟩) (kpreVA hP hK hN (Nat.le_trans hz hS.1)) rfl rfl hl.1 rfl (lv_room (Nat.le_of_ble_eq_true rfl)) dL_groups_366 ⟨Nat.le_of_ble_eq_true rfl, Nat.le_of_ble_eq_true rfl⟩) hS (fun H locs hP hS => ?_)
            refine lv_iload hx hb dL_groups_369 (lv_at hl 7 rfl) ?_
            refine lv_if_ne (tgt := 379) hx hb dL_groups_371 (by decide) (fun g => ?_) (fun g => ?_)
            · rw [if_neg g] at h
              refine lv_iload_n hx hb dL_groups_379 rfl (lv_at hl 3 rfl) ?_
              exact j380 c1_0 y1 y2 y3 (t0 + t1) y6 y7 y8 y10 y11 y12 q36 y2 _ _ _ h hP hS (lv_sub hl [1, 2, 3, 4, 0, 5, 6, 7, 8, 10, 11, 12] rfl)
            · rw [if_pos g] at h
              refine lv_bipush (v := (-5 : Int32)) hx hb dL_groups_374 (by decide) ?_
              refine lv_goto (tgt := 380) hx hb dL_groups_376 (by decide) ?_
              exact j380 c1_0 y1 y2 y3 (t0 + t1) y6 y7 y8 y10 y11 y12 q36 (-5 : Int32) _ _ _ h hP hS (lv_sub hl [1, 2, 3, 4, 0, 5, 6, 7, 8, 10, 11, 12] rfl)
      have L216 : ∀ (nL216 : Nat) (c1_0 : (Nat → Int32)) (y1 : Int32) (y2 : Int32) (y3 : Int32) (y4 : Int32) (y6 : Int32) (y7 : Int32) (y8 : Int32) (y9 : Int32) (y10 : Int32) (y11 : Int32) (y12 : Int32) (y13 : Int32) (H : Heap) (locs : List Loc) (ls : Array Slot), pL_groups_L216 vO0 (pL_groups_L15 vO0 nL15) nL216 c1_0 y1 y2 y3 y4 y6 y7 y8 y9 y10 y11 y12 y13 = some q → (aW D cI cC cS lo aV vO0 (X ++ wAR cI aK 4 c1_0)) H → va_S (fun q => lo ≤ q) s.heap H locs → lv_has ls 14 [(0, .ref aV), (1, .int y1), (2, .int y2), (3, .int y3), (4, .int y4), (5, .ref aK), (6, .int y6), (7, .int y7), (8, .int y8), (9, .int y9), (10, .int y10), (11, .int y11), (12, .int y12), (13, .int y13)] → W p l e ({ frames := 7, cells := 1, slots := 4, locals := 160 } : Room) s m ([.ref aV, .int i2] : List Value).toArray below meth c H locs 1 4 (MQ below (va_Qi (fun (r : Int32) (_ : Unit) => r = q) (fun _ t => (aW D cI cC cS lo aV vO0 X) t.heap) (fun q => lo ≤ q)) ([.ref aV, .int i2] : List Value).toArray s 1 4 (fun q => lo ≤ q)) (F0 m 216 ls []) := by
        intro nL216
        induction nL216 with
        | zero => intro c1_0 y1 y2 y3 y4 y6 y7 y8 y9 y10 y11 y12 y13 H locs ls h; have h : (none : Option (Int32)) = some q := h; cases h
        | succ nL216 ihL216 =>
          have j297 : ∀ (c1_0 : (Nat → Int32)) (y1 : Int32) (y2 : Int32) (y3 : Int32) (y4 : Int32) (y6 : Int32) (y7 : Int32) (y8 : Int32) (y9 : Int32) (y10 : Int32) (y11 : Int32) (y12 : Int32) (y13 : Int32) (t0 : Int32) (t1 : Int32) (H : Heap) (locs : List Loc) (ls : Array Slot), pL_groups_j297 vO0 (pL_groups_L15 vO0 nL15) (pL_groups_L216 vO0 (pL_groups_L15 vO0 nL15) nL216) c1_0 y1 y2 y3 y4 y6 y7 y8 y9 y10 y11 y12 y13 t0 t1 = some q → (aW D cI cC cS lo aV vO0 (X ++ wAR cI aK 4 c1_0)) H → va_S (fun q => lo ≤ q) s.heap H locs → lv_has ls 14 [(0, .ref aV), (1, .int y1), (2, .int y2), (3, .int y3), (4, .int y4), (5, .ref aK), (6, .int y6), (7, .int y7), (8, .int y8), (9, .int y9), (10, .int y10), (11, .int y11), (12, .int y12), (13, .int y13)] → W p l e ({ frames := 7, cells := 1, slots := 4, locals := 160 } : Room) s m ([.ref aV, .int i2] : List Value).toArray below meth c H locs 1 4 (MQ below (va_Qi (fun (r : Int32) (_ : Unit) => r = q) (fun _ t => (aW D cI cC cS lo aV vO0 X) t.heap) (fun q => lo ≤ q)) ([.ref aV, .int i2] : List Value).toArray s 1 4 (fun q => lo ≤ q)) (F0 m 297 ls [.int t1, .int t0]) := by
            skip
            intro c1_0 y1 y2 y3 y4 y6 y7 y8 y9 y10 y11 y12 y13 t0 t1 H locs ls h hP hS hl
            unfold pL_groups_j297 at h
            refine lv_icmp_eq (tgt := 302) hx hb dL_groups_297 (by decide) (fun g => ?_) (fun g => ?_)
            · rw [if_pos g] at h
              refine lv_iinc (v := (y13 + (1 : Int32))) (lv' := [(13, .int (y13 + (1 : Int32))), (0, .ref aV), (1, .int y1), (2, .int y2), (3, .int y3), (4, .int y4), (5, .ref aK), (6, .int y6), (7, .int y7), (8, .int y8), (9, .int y9), (10, .int y10), (11, .int y11), (12, .int y12)]) hx hb dL_groups_302 hl (k := 13) rfl rfl (by decide) rfl (fun ls hl => ?_)
              refine lv_goto (tgt := 216) hx hb dL_groups_305 (by decide) ?_
              exact ihL216 c1_0 y1 y2 y3 y4 y6 y7 y8 y9 y10 y11 y12 (y13 + (1 : Int32)) _ _ _ h hP hS (lv_sub hl [1, 2, 3, 4, 5, 6, 7, 8, 9, 10, 11, 12, 13, 0] rfl)
            · rw [if_neg g] at h
              refine lv_iconst (v := (0 : Int32)) hx hb dL_groups_300 (by decide) ?_
              obtain rfl := Option.some.inj h
              exact W.zret (v := (0 : Int32)) hx hb hr rfl (fun t ht hW => ⟨⟨_, (), rfl, rfl, by dsimp only; rw [ht]; exact hP.sub⟩, hS.F ht⟩) hS.2.2 dL_groups_301
          have j270 : ∀ (c1_0 : (Nat → Int32)) (y1 : Int32) (y2 : Int32) (y3 : Int32) (y4 : Int32) (y6 : Int32) (y7 : Int32) (y8 : Int32) (y9 : Int32) (y10 : Int32) (y11 : Int32) (y12 : Int32) (y13 : Int32) (t0 : Int32) (t1 : Int32) (H : Heap) (locs : List Loc) (ls : Array Slot), pL_groups_j270 vO0 (pL_groups_L15 vO0 nL15) (pL_groups_L216 vO0 (pL_groups_L15 vO0 nL15) nL216) c1_0 y1 y2 y3 y4 y6 y7 y8 y9 y10 y11 y12 y13 t0 t1 = some q → (aW D cI cC cS lo aV vO0 (X ++ wAR cI aK 4 c1_0)) H → va_S (fun q => lo ≤ q) s.heap H locs → lv_has ls 14 [(0, .ref aV), (1, .int y1), (2, .int y2), (3, .int y3), (4, .int y4), (5, .ref aK), (6, .int y6), (7, .int y7), (8, .int y8), (9, .int y9), (10, .int y10), (11, .int y11), (12, .int y12), (13, .int y13)] → W p l e ({ frames := 7, cells := 1, slots := 4, locals := 160 } : Room) s m ([.ref aV, .int i2] : List Value).toArray below meth c H locs 1 4 (MQ below (va_Qi (fun (r : Int32) (_ : Unit) => r = q) (fun _ t => (aW D cI cC cS lo aV vO0 X) t.heap) (fun q => lo ≤ q)) ([.ref aV, .int i2] : List Value).toArray s 1 4 (fun q => lo ≤ q)) (F0 m 270 ls [.int t1, .int t0]) := by
            skip
            intro c1_0 y1 y2 y3 y4 y6 y7 y8 y9 y10 y11 y12 y13 t0 t1 H locs ls h hP hS hl
            unfold pL_groups_j270 at h
            refine lv_icmp_ne (tgt := 300) hx hb dL_groups_270 (by decide) (fun g => ?_) (fun g => ?_)
            · rw [if_neg g] at h
              refine lv_iconst (v := (0 : Int32)) hx hb dL_groups_300 (by decide) ?_
              obtain rfl := Option.some.inj h
              exact W.zret (v := (0 : Int32)) hx hb hr rfl (fun t ht hW => ⟨⟨_, (), rfl, rfl, by dsimp only; rw [ht]; exact hP.sub⟩, hS.F ht⟩) hS.2.2 dL_groups_301
            · rw [if_pos g] at h
              refine lv_aload_n hx hb dL_groups_273 rfl (lv_at hl 0 rfl) ?_
              refine lv_iconst (v := (1 : Int32)) hx hb dL_groups_274 (by decide) ?_
              refine lv_iload hx hb dL_groups_275 (lv_at hl 13 rfl) ?_
              refine lv_iconst (v := (2 : Int32)) hx hb dL_groups_277 (by decide) ?_
              obtain ⟨q52, h51, h⟩ := Option.bind_eq_some_iff.mp h
              refine kciA (va_runV (As := [.int (1 : Int32), .int y13, .int (2 : Int32)]) (rest := []) ⟨hx, hb, hml, hown, hts⟩ (aX9_beside l D cI cC cS lo aV vO0 (X ++ wAR cI aK 4 c1_0) (1 : Int32) y13 (2 : Int32) h51) (cwV 3 hts gL_groups_X9_beside rfl rfl rfl (by decide +kernel) ⟨Nat.le_of_ble_eq_true rfl, Nat.le_of_ble_eq_true rfl⟩) (kpreVA hP hK hN (Nat.le_trans hz hS.1)) rfl rfl hl.1 rfl (lv_room (Nat.le_of_ble_eq_true rfl)) dL_groups_278 ⟨Nat.le_of_ble_eq_true rfl, Nat.le_of_ble_eq_true rfl⟩) hS (fun H locs hP hS => ?_)
              refine lv_iload hx hb dL_groups_281 (lv_at hl 7 rfl) ?_
              refine lv_if_ne (tgt := 291) hx hb dL_groups_283 (by decide) (fun g => ?_) (fun g => ?_)
              · rw [if_neg g] at h
                refine lv_iload_n hx hb dL_groups_291 rfl (lv_at hl 2 rfl) ?_
                refine lv_iload hx hb dL_groups_292 (lv_at hl 7 rfl) ?_
                refine lv_iadd hx hb dL_groups_294 ?_
                refine lv_iconst (v := (1 : Int32)) hx hb dL_groups_295 (by decide) ?_
                refine lv_isub hx hb dL_groups_296 ?_
                exact j297 c1_0 y1 y2 y3 y4 y6 y7 y8 y9 y10 y11 y12 y13 q52 ((y2 + y7) - (1 : Int32)) _ _ _ h hP hS (lv_sub hl [0, 1, 2, 3, 4, 5, 6, 7, 8, 9, 10, 11, 12, 13] rfl)
              · rw [if_pos g] at h
                refine lv_bipush (v := (-5 : Int32)) hx hb dL_groups_286 (by decide) ?_
                refine lv_goto (tgt := 297) hx hb dL_groups_288 (by decide) ?_
                exact j297 c1_0 y1 y2 y3 y4 y6 y7 y8 y9 y10 y11 y12 y13 q52 (-5 : Int32) _ _ _ h hP hS (lv_sub hl [0, 1, 2, 3, 4, 5, 6, 7, 8, 9, 10, 11, 12, 13] rfl)
          intro c1_0 y1 y2 y3 y4 y6 y7 y8 y9 y10 y11 y12 y13 H locs ls h hP hS hl
          have h : pL_groups_bL216 vO0 (pL_groups_L15 vO0 nL15) (pL_groups_L216 vO0 (pL_groups_L15 vO0 nL15) nL216) c1_0 y1 y2 y3 y4 y6 y7 y8 y9 y10 y11 y12 y13 = some q := h
          unfold pL_groups_bL216 at h
          refine lv_iload hx hb dL_groups_216 (lv_at hl 13 rfl) ?_
          refine lv_iload_n hx hb dL_groups_218 rfl (lv_at hl 3 rfl) ?_
          refine lv_iload hx hb dL_groups_219 (lv_at hl 8 rfl) ?_
          refine lv_iadd hx hb dL_groups_221 ?_
          refine lv_icmp_ge (tgt := 308) hx hb dL_groups_222 (by decide) (fun g => ?_) (fun g => ?_)
          · rw [if_pos g] at h
            refine lv_aload hx hb dL_groups_308 (lv_at hl 5 rfl) ?_
            refine lv_iload hx hb dL_groups_310 (lv_at hl 9 rfl) ?_
            refine lv_dup2_11 hx hb dL_groups_312 rfl rfl ?_
            obtain ⟨g, h⟩ := kif h
            refine va_iald hx hb hK hP.xr 0 0 rfl rfl (kin g) dL_groups_313 ?_
            refine lv_iconst (v := (1 : Int32)) hx hb dL_groups_314 (by decide) ?_
            refine lv_iadd hx hb dL_groups_315 ?_
            obtain ⟨g, h⟩ := kif h
            refine aW_kst hx hb hK hP hS (kin g) dL_groups_316 (fun H locs hP hS => ?_)
            refine lv_iload hx hb dL_groups_317 (lv_at hl 4 rfl) ?_
            refine lv_iload hx hb dL_groups_319 (lv_at hl 10 rfl) ?_
            refine lv_iload hx hb dL_groups_321 (lv_at hl 11 rfl) ?_
            refine lv_icmp_le (tgt := 334) hx hb dL_groups_323 (by decide) (fun g => ?_) (fun g => ?_)
            · rw [if_pos g] at h
              refine lv_iload hx hb dL_groups_334 (lv_at hl 11 rfl) ?_
              refine lv_iload hx hb dL_groups_336 (lv_at hl 10 rfl) ?_
              refine lv_isub hx hb dL_groups_338 ?_
              exact j339 (upd c1_0 y9.toNatClampNeg ((c1_0 y9.toNatClampNeg) + (1 : Int32))) y1 y2 y3 y6 y7 y8 y9 y10 y11 y12 y4 (y11 - y10) _ _ _ h hP hS (lv_sub hl [0, 1, 2, 3, 5, 6, 7, 8, 9, 10, 11, 12] rfl)
            · rw [if_neg g] at h
              refine lv_iload hx hb dL_groups_326 (lv_at hl 10 rfl) ?_
              refine lv_iload hx hb dL_groups_328 (lv_at hl 11 rfl) ?_
              refine lv_isub hx hb dL_groups_330 ?_
              refine lv_goto (tgt := 339) hx hb dL_groups_331 (by decide) ?_
              exact j339 (upd c1_0 y9.toNatClampNeg ((c1_0 y9.toNatClampNeg) + (1 : Int32))) y1 y2 y3 y6 y7 y8 y9 y10 y11 y12 y4 (y10 - y11) _ _ _ h hP hS (lv_sub hl [0, 1, 2, 3, 5, 6, 7, 8, 9, 10, 11, 12] rfl)
          · rw [if_neg g] at h
            refine lv_iload hx hb dL_groups_225 (lv_at hl 12 rfl) ?_
            refine lv_aload_n hx hb dL_groups_227 rfl (lv_at hl 0 rfl) ?_
            refine lv_iconst (v := (1 : Int32)) hx hb dL_groups_228 (by decide) ?_
            refine lv_iload hx hb dL_groups_229 (lv_at hl 13 rfl) ?_
            refine lv_iconst (v := (3 : Int32)) hx hb dL_groups_231 (by decide) ?_
            obtain ⟨q46, h45, h⟩ := Option.bind_eq_some_iff.mp h
            refine kciA (va_runV (As := [.int (1 : Int32), .int y13, .int (3 : Int32)]) (rest := [.int y12]) ⟨hx, hb, hml, hown, hts⟩ (aX9_verse l D cI cC cS lo aV vO0 (X ++ wAR cI aK 4 c1_0) (1 : Int32) y13 (3 : Int32) h45) (cwV 3 hts gL_groups_X9_verse rfl rfl rfl (by decide +kernel) ⟨Nat.le_of_ble_eq_true rfl, Nat.le_of_ble_eq_true rfl⟩) (kpreVA hP hK hN (Nat.le_trans hz hS.1)) rfl rfl hl.1 rfl (lv_room (Nat.le_of_ble_eq_true rfl)) dL_groups_232 ⟨Nat.le_of_ble_eq_true rfl, Nat.le_of_ble_eq_true rfl⟩) hS (fun H locs hP hS => ?_)
            refine lv_iadd hx hb dL_groups_235 ?_
            refine lv_istore (lv' := [(12, .int (y12 + q46)), (0, .ref aV), (1, .int y1), (2, .int y2), (3, .int y3), (4, .int y4), (5, .ref aK), (6, .int y6), (7, .int y7), (8, .int y8), (9, .int y9), (10, .int y10), (11, .int y11), (13, .int y13)]) hx hb dL_groups_236 hl (by decide) rfl (fun ls hl => ?_)
            refine lv_aload_n hx hb dL_groups_238 rfl (lv_at hl 1 rfl) ?_
            refine lv_iconst (v := (1 : Int32)) hx hb dL_groups_239 (by decide) ?_
            refine lv_iload hx hb dL_groups_240 (lv_at hl 13 rfl) ?_
            refine lv_iconst (v := (0 : Int32)) hx hb dL_groups_242 (by decide) ?_
            obtain ⟨q48, h47, h⟩ := Option.bind_eq_some_iff.mp h
            refine kciA (va_runV (As := [.int (1 : Int32), .int y13, .int (0 : Int32)]) (rest := []) ⟨hx, hb, hml, hown, hts⟩ (aX9_beside l D cI cC cS lo aV vO0 (X ++ wAR cI aK 4 c1_0) (1 : Int32) y13 (0 : Int32) h47) (cwV 3 hts gL_groups_X9_beside rfl rfl rfl (by decide +kernel) ⟨Nat.le_of_ble_eq_true rfl, Nat.le_of_ble_eq_true rfl⟩) (kpreVA hP hK hN (Nat.le_trans hz hS.1)) rfl rfl hl.1 rfl (lv_room (Nat.le_of_ble_eq_true rfl)) dL_groups_243 ⟨Nat.le_of_ble_eq_true rfl, Nat.le_of_ble_eq_true rfl⟩) hS (fun H locs hP hS => ?_)
            refine lv_iload hx hb dL_groups_246 (lv_at hl 7 rfl) ?_
            refine lv_icmp_ne (tgt := 300) hx hb dL_groups_248 (by decide) (fun g => ?_) (fun g => ?_)
            · rw [if_neg g] at h
              refine lv_iconst (v := (0 : Int32)) hx hb dL_groups_300 (by decide) ?_
              obtain rfl := Option.some.inj h
              exact W.zret (v := (0 : Int32)) hx hb hr rfl (fun t ht hW => ⟨⟨_, (), rfl, rfl, by dsimp only; rw [ht]; exact hP.sub⟩, hS.F ht⟩) hS.2.2 dL_groups_301
            · rw [if_pos g] at h
              refine lv_aload_n hx hb dL_groups_251 rfl (lv_at hl 1 rfl) ?_
              refine lv_iconst (v := (1 : Int32)) hx hb dL_groups_252 (by decide) ?_
              refine lv_iload hx hb dL_groups_253 (lv_at hl 13 rfl) ?_
              refine lv_iconst (v := (1 : Int32)) hx hb dL_groups_255 (by decide) ?_
              obtain ⟨q50, h49, h⟩ := Option.bind_eq_some_iff.mp h
              refine kciA (va_runV (As := [.int (1 : Int32), .int y13, .int (1 : Int32)]) (rest := []) ⟨hx, hb, hml, hown, hts⟩ (aX9_beside l D cI cC cS lo aV vO0 (X ++ wAR cI aK 4 c1_0) (1 : Int32) y13 (1 : Int32) h49) (cwV 3 hts gL_groups_X9_beside rfl rfl rfl (by decide +kernel) ⟨Nat.le_of_ble_eq_true rfl, Nat.le_of_ble_eq_true rfl⟩) (kpreVA hP hK hN (Nat.le_trans hz hS.1)) rfl rfl hl.1 rfl (lv_room (Nat.le_of_ble_eq_true rfl)) dL_groups_256 ⟨Nat.le_of_ble_eq_true rfl, Nat.le_of_ble_eq_true rfl⟩) hS (fun H locs hP hS => ?_)
              refine lv_iload hx hb dL_groups_259 (lv_at hl 8 rfl) ?_
              refine lv_if_ne (tgt := 269) hx hb dL_groups_261 (by decide) (fun g => ?_) (fun g => ?_)
              · rw [if_neg g] at h
                refine lv_iload_n hx hb dL_groups_269 rfl (lv_at hl 3 rfl) ?_
                exact j270 c1_0 y1 y2 y3 y4 y6 y7 y8 y9 y10 y11 (y12 + q46) y13 q50 y2 _ _ _ h hP hS (lv_sub hl [1, 2, 3, 4, 5, 6, 7, 8, 9, 10, 11, 12, 0, 13] rfl)
              · rw [if_pos g] at h
                refine lv_bipush (v := (-5 : Int32)) hx hb dL_groups_264 (by decide) ?_
                refine lv_goto (tgt := 270) hx hb dL_groups_266 (by decide) ?_
                exact j270 c1_0 y1 y2 y3 y4 y6 y7 y8 y9 y10 y11 (y12 + q46) y13 q50 (-5 : Int32) _ _ _ h hP hS (lv_sub hl [1, 2, 3, 4, 5, 6, 7, 8, 9, 10, 11, 12, 0, 13] rfl)
      have L108 : ∀ (nL108 : Nat) (c1_0 : (Nat → Int32)) (y1 : Int32) (y2 : Int32) (y3 : Int32) (y4 : Int32) (y6 : Int32) (y7 : Int32) (y8 : Int32) (y9 : Int32) (y10 : Int32) (y11 : Int32) (y12 : Int32) (y13 : Int32) (H : Heap) (locs : List Loc) (ls : Array Slot), pL_groups_L108 vO0 (pL_groups_L15 vO0 nL15) nL108 c1_0 y1 y2 y3 y4 y6 y7 y8 y9 y10 y11 y12 y13 = some q → (aW D cI cC cS lo aV vO0 (X ++ wAR cI aK 4 c1_0)) H → va_S (fun q => lo ≤ q) s.heap H locs → lv_has ls 14 [(0, .ref aV), (1, .int y1), (2, .int y2), (3, .int y3), (4, .int y4), (5, .ref aK), (6, .int y6), (7, .int y7), (8, .int y8), (9, .int y9), (10, .int y10), (11, .int y11), (12, .int y12), (13, .int y13)] → W p l e ({ frames := 7, cells := 1, slots := 4, locals := 160 } : Room) s m ([.ref aV, .int i2] : List Value).toArray below meth c H locs 1 4 (MQ below (va_Qi (fun (r : Int32) (_ : Unit) => r = q) (fun _ t => (aW D cI cC cS lo aV vO0 X) t.heap) (fun q => lo ≤ q)) ([.ref aV, .int i2] : List Value).toArray s 1 4 (fun q => lo ≤ q)) (F0 m 108 ls []) := by
        intro nL108
        induction nL108 with
        | zero => intro c1_0 y1 y2 y3 y4 y6 y7 y8 y9 y10 y11 y12 y13 H locs ls h; have h : (none : Option (Int32)) = some q := h; cases h
        | succ nL108 ihL108 =>
          have j189 : ∀ (c1_0 : (Nat → Int32)) (y1 : Int32) (y2 : Int32) (y3 : Int32) (y4 : Int32) (y6 : Int32) (y7 : Int32) (y8 : Int32) (y9 : Int32) (y10 : Int32) (y11 : Int32) (y12 : Int32) (y13 : Int32) (t0 : Int32) (t1 : Int32) (H : Heap) (locs : List Loc) (ls : Array Slot), pL_groups_j189 vO0 (pL_groups_L15 vO0 nL15) (pL_groups_L108 vO0 (pL_groups_L15 vO0 nL15) nL108) c1_0 y1 y2 y3 y4 y6 y7 y8 y9 y10 y11 y12 y13 t0 t1 = some q → (aW D cI cC cS lo aV vO0 (X ++ wAR cI aK 4 c1_0)) H → va_S (fun q => lo ≤ q) s.heap H locs → lv_has ls 14 [(0, .ref aV), (1, .int y1), (2, .int y2), (3, .int y3), (4, .int y4), (5, .ref aK), (6, .int y6), (7, .int y7), (8, .int y8), (9, .int y9), (10, .int y10), (11, .int y11), (12, .int y12), (13, .int y13)] → W p l e ({ frames := 7, cells := 1, slots := 4, locals := 160 } : Room) s m ([.ref aV, .int i2] : List Value).toArray below meth c H locs 1 4 (MQ below (va_Qi (fun (r : Int32) (_ : Unit) => r = q) (fun _ t => (aW D cI cC cS lo aV vO0 X) t.heap) (fun q => lo ≤ q)) ([.ref aV, .int i2] : List Value).toArray s 1 4 (fun q => lo ≤ q)) (F0 m 189 ls [.int t1, .int t0]) := by
            skip
            intro c1_0 y1 y2 y3 y4 y6 y7 y8 y9 y10 y11 y12 y13 t0 t1 H locs ls h hP hS hl
            unfold pL_groups_j189 at h
            refine lv_icmp_ne (tgt := 205) hx hb dL_groups_189 (by decide) (fun g => ?_) (fun g => ?_)
            · rw [if_neg g] at h
              refine lv_iconst (v := (0 : Int32)) hx hb dL_groups_205 (by decide) ?_
              obtain rfl := Option.some.inj h
              exact W.zret (v := (0 : Int32)) hx hb hr rfl (fun t ht hW => ⟨⟨_, (), rfl, rfl, by dsimp only; rw [ht]; exact hP.sub⟩, hS.F ht⟩) hS.2.2 dL_groups_206
            · rw [if_pos g] at h
              refine lv_aload_n hx hb dL_groups_192 rfl (lv_at hl 0 rfl) ?_
              refine lv_iconst (v := (0 : Int32)) hx hb dL_groups_193 (by decide) ?_
              refine lv_iload hx hb dL_groups_194 (lv_at hl 13 rfl) ?_
              refine lv_iconst (v := (3 : Int32)) hx hb dL_groups_196 (by decide) ?_
              obtain ⟨q62, h61, h⟩ := Option.bind_eq_some_iff.mp h
              refine kciA (va_runV (As := [.int (0 : Int32), .int y13, .int (3 : Int32)]) (rest := []) ⟨hx, hb, hml, hown, hts⟩ (aX9_beside l D cI cC cS lo aV vO0 (X ++ wAR cI aK 4 c1_0) (0 : Int32) y13 (3 : Int32) h61) (cwV 3 hts gL_groups_X9_beside rfl rfl rfl (by decide +kernel) ⟨Nat.le_of_ble_eq_true rfl, Nat.le_of_ble_eq_true rfl⟩) (kpreVA hP hK hN (Nat.le_trans hz hS.1)) rfl rfl hl.1 rfl (lv_room (Nat.le_of_ble_eq_true rfl)) dL_groups_197 ⟨Nat.le_of_ble_eq_true rfl, Nat.le_of_ble_eq_true rfl⟩) hS (fun H locs hP hS => ?_)
              refine lv_bipush (v := (-2 : Int32)) hx hb dL_groups_200 (by decide) ?_
              refine lv_icmp_eq (tgt := 207) hx hb dL_groups_202 (by decide) (fun g => ?_) (fun g => ?_)
              · rw [if_pos g] at h
                refine lv_iinc (v := (y13 + (1 : Int32))) (lv' := [(13, .int (y13 + (1 : Int32))), (0, .ref aV), (1, .int y1), (2, .int y2), (3, .int y3), (4, .int y4), (5, .ref aK), (6, .int y6), (7, .int y7), (8, .int y8), (9, .int y9), (10, .int y10), (11, .int y11), (12, .int y12)]) hx hb dL_groups_207 hl (k := 13) rfl rfl (by decide) rfl (fun ls hl => ?_)
                refine lv_goto (tgt := 108) hx hb dL_groups_210 (by decide) ?_
                exact ihL108 c1_0 y1 y2 y3 y4 y6 y7 y8 y9 y10 y11 y12 (y13 + (1 : Int32)) _ _ _ h hP hS (lv_sub hl [1, 2, 3, 4, 5, 6, 7, 8, 9, 10, 11, 12, 13, 0] rfl)
              · rw [if_neg g] at h
                refine lv_iconst (v := (0 : Int32)) hx hb dL_groups_205 (by decide) ?_
                obtain rfl := Option.some.inj h
                exact W.zret (v := (0 : Int32)) hx hb hr rfl (fun t ht hW => ⟨⟨_, (), rfl, rfl, by dsimp only; rw [ht]; exact hP.sub⟩, hS.F ht⟩) hS.2.2 dL_groups_206
          have j162 : ∀ (c1_0 : (Nat → Int32)) (y1 : Int32) (y2 : Int32) (y3 : Int32) (y4 : Int32) (y6 : Int32) (y7 : Int32) (y8 : Int32) (y9 : Int32) (y10 : Int32) (y11 : Int32) (y12 : Int32) (y13 : Int32) (t0 : Int32) (t1 : Int32) (H : Heap) (locs : List Loc) (ls : Array Slot), pL_groups_j162 vO0 (pL_groups_L15 vO0 nL15) (pL_groups_L108 vO0 (pL_groups_L15 vO0 nL15) nL108) c1_0 y1 y2 y3 y4 y6 y7 y8 y9 y10 y11 y12 y13 t0 t1 = some q → (aW D cI cC cS lo aV vO0 (X ++ wAR cI aK 4 c1_0)) H → va_S (fun q => lo ≤ q) s.heap H locs → lv_has ls 14 [(0, .ref aV), (1, .int y1), (2, .int y2), (3, .int y3), (4, .int y4), (5, .ref aK), (6, .int y6), (7, .int y7), (8, .int y8), (9, .int y9), (10, .int y10), (11, .int y11), (12, .int y12), (13, .int y13)] → W p l e ({ frames := 7, cells := 1, slots := 4, locals := 160 } : Room) s m ([.ref aV, .int i2] : List Value).toArray below meth c H locs 1 4 (MQ below (va_Qi (fun (r : Int32) (_ : Unit) => r = q) (fun _ t => (aW D cI cC cS lo aV vO0 X) t.heap) (fun q => lo ≤ q)) ([.ref aV, .int i2] : List Value).toArray s 1 4 (fun q => lo ≤ q)) (F0 m 162 ls [.int t1, .int t0]) := by
            skip
            intro c1_0 y1 y2 y3 y4 y6 y7 y8 y9 y10 y11 y12 y13 t0 t1 H locs ls h hP hS hl
            unfold pL_groups_j162 at h
            refine lv_icmp_ne (tgt := 205) hx hb dL_groups_162 (by decide) (fun g => ?_) (fun g => ?_)
            · rw [if_neg g] at h
              refine lv_iconst (v := (0 : Int32)) hx hb dL_groups_205 (by decide) ?_
              obtain rfl := Option.some.inj h
              exact W.zret (v := (0 : Int32)) hx hb hr rfl (fun t ht hW => ⟨⟨_, (), rfl, rfl, by dsimp only; rw [ht]; exact hP.sub⟩, hS.F ht⟩) hS.2.2 dL_groups_206
            · rw [if_pos g] at h
              refine lv_aload_n hx hb dL_groups_165 rfl (lv_at hl 0 rfl) ?_
              refine lv_iconst (v := (0 : Int32)) hx hb dL_groups_166 (by decide) ?_
              refine lv_iload hx hb dL_groups_167 (lv_at hl 13 rfl) ?_
              refine lv_iconst (v := (2 : Int32)) hx hb dL_groups_169 (by decide) ?_
              obtain ⟨q60, h59, h⟩ := Option.bind_eq_some_iff.mp h
              refine kciA (va_runV (As := [.int (0 : Int32), .int y13, .int (2 : Int32)]) (rest := []) ⟨hx, hb, hml, hown, hts⟩ (aX9_beside l D cI cC cS lo aV vO0 (X ++ wAR cI aK 4 c1_0) (0 : Int32) y13 (2 : Int32) h59) (cwV 3 hts gL_groups_X9_beside rfl rfl rfl (by decide +kernel) ⟨Nat.le_of_ble_eq_true rfl, Nat.le_of_ble_eq_true rfl⟩) (kpreVA hP hK hN (Nat.le_trans hz hS.1)) rfl rfl hl.1 rfl (lv_room (Nat.le_of_ble_eq_true rfl)) dL_groups_170 ⟨Nat.le_of_ble_eq_true rfl, Nat.le_of_ble_eq_true rfl⟩) hS (fun H locs hP hS => ?_)
              refine lv_iload hx hb dL_groups_173 (lv_at hl 8 rfl) ?_
              refine lv_if_ne (tgt := 183) hx hb dL_groups_175 (by decide) (fun g => ?_) (fun g => ?_)
              · rw [if_neg g] at h
                refine lv_iload_n hx hb dL_groups_183 rfl (lv_at hl 3 rfl) ?_
                refine lv_iload hx hb dL_groups_184 (lv_at hl 8 rfl) ?_
                refine lv_iadd hx hb dL_groups_186 ?_
                refine lv_iconst (v := (1 : Int32)) hx hb dL_groups_187 (by decide) ?_
                refine lv_isub hx hb dL_groups_188 ?_
                exact j189 c1_0 y1 y2 y3 y4 y6 y7 y8 y9 y10 y11 y12 y13 q60 ((y3 + y8) - (1 : Int32)) _ _ _ h hP hS (lv_sub hl [0, 1, 2, 3, 4, 5, 6, 7, 8, 9, 10, 11, 12, 13] rfl)
              · rw [if_pos g] at h
                refine lv_bipush (v := (-5 : Int32)) hx hb dL_groups_178 (by decide) ?_
                refine lv_goto (tgt := 189) hx hb dL_groups_180 (by decide) ?_
                exact j189 c1_0 y1 y2 y3 y4 y6 y7 y8 y9 y10 y11 y12 y13 q60 (-5 : Int32) _ _ _ h hP hS (lv_sub hl [0, 1, 2, 3, 4, 5, 6, 7, 8, 9, 10, 11, 12, 13] rfl)
          intro c1_0 y1 y2 y3 y4 y6 y7 y8 y9 y10 y11 y12 y13 H locs ls h hP hS hl
          have h : pL_groups_bL108 vO0 (pL_groups_L15 vO0 nL15) (pL_groups_L108 vO0 (pL_groups_L15 vO0 nL15) nL108) c1_0 y1 y2 y3 y4 y6 y7 y8 y9 y10 y11 y12 y13 = some q := h
          unfold pL_groups_bL108 at h
          refine lv_iload hx hb dL_groups_108 (lv_at hl 13 rfl) ?_
          refine lv_iload_n hx hb dL_groups_110 rfl (lv_at hl 2 rfl) ?_
          refine lv_iload hx hb dL_groups_111 (lv_at hl 7 rfl) ?_
          refine lv_iadd hx hb dL_groups_113 ?_
          refine lv_icmp_ge (tgt := 213) hx hb dL_groups_114 (by decide) (fun g => ?_) (fun g => ?_)
          · rw [if_pos g] at h
            refine lv_iload_n hx hb dL_groups_213 rfl (lv_at hl 3 rfl) ?_
            refine lv_istore (lv' := [(13, .int y3), (0, .ref aV), (1, .int y1), (2, .int y2), (3, .int y3), (4, .int y4), (5, .ref aK), (6, .int y6), (7, .int y7), (8, .int y8), (9, .int y9), (10, .int y10), (11, .int y11), (12, .int y12)]) hx hb dL_groups_214 hl (by decide) rfl (fun ls hl => ?_)
            exact L216 4000 c1_0 y1 y2 y3 y4 y6 y7 y8 y9 y10 y11 y12 y3 _ _ _ h hP hS (lv_sub hl [1, 2, 3, 4, 5, 6, 7, 8, 9, 10, 11, 12, 13, 0] rfl)
          · rw [if_neg g] at h
            refine lv_iload hx hb dL_groups_117 (lv_at hl 12 rfl) ?_
            refine lv_aload_n hx hb dL_groups_119 rfl (lv_at hl 0 rfl) ?_
            refine lv_iconst (v := (0 : Int32)) hx hb dL_groups_120 (by decide) ?_
            refine lv_iload hx hb dL_groups_121 (lv_at hl 13 rfl) ?_
            refine lv_iconst (v := (3 : Int32)) hx hb dL_groups_123 (by decide) ?_
            obtain ⟨q54, h53, h⟩ := Option.bind_eq_some_iff.mp h
            refine kciA (va_runV (As := [.int (0 : Int32), .int y13, .int (3 : Int32)]) (rest := [.int y12]) ⟨hx, hb, hml, hown, hts⟩ (aX9_verse l D cI cC cS lo aV vO0 (X ++ wAR cI aK 4 c1_0) (0 : Int32) y13 (3 : Int32) h53) (cwV 3 hts gL_groups_X9_verse rfl rfl rfl (by decide +kernel) ⟨Nat.le_of_ble_eq_true rfl, Nat.le_of_ble_eq_true rfl⟩) (kpreVA hP hK hN (Nat.le_trans hz hS.1)) rfl rfl hl.1 rfl (lv_room (Nat.le_of_ble_eq_true rfl)) dL_groups_124 ⟨Nat.le_of_ble_eq_true rfl, Nat.le_of_ble_eq_true rfl⟩) hS (fun H locs hP hS => ?_)
            refine lv_iadd hx hb dL_groups_127 ?_
            refine lv_istore (lv' := [(12, .int (y12 + q54)), (0, .ref aV), (1, .int y1), (2, .int y2), (3, .int y3), (4, .int y4), (5, .ref aK), (6, .int y6), (7, .int y7), (8, .int y8), (9, .int y9), (10, .int y10), (11, .int y11), (13, .int y13)]) hx hb dL_groups_128 hl (by decide) rfl (fun ls hl => ?_)
            refine lv_aload_n hx hb dL_groups_130 rfl (lv_at hl 1 rfl) ?_
            refine lv_iconst (v := (0 : Int32)) hx hb dL_groups_131 (by decide) ?_
            refine lv_iload hx hb dL_groups_132 (lv_at hl 13 rfl) ?_
            refine lv_iconst (v := (0 : Int32)) hx hb dL_groups_134 (by decide) ?_
            obtain ⟨q56, h55, h⟩ := Option.bind_eq_some_iff.mp h
            refine kciA (va_runV (As := [.int (0 : Int32), .int y13, .int (0 : Int32)]) (rest := []) ⟨hx, hb, hml, hown, hts⟩ (aX9_beside l D cI cC cS lo aV vO0 (X ++ wAR cI aK 4 c1_0) (0 : Int32) y13 (0 : Int32) h55) (cwV 3 hts gL_groups_X9_beside rfl rfl rfl (by decide +kernel) ⟨Nat.le_of_ble_eq_true rfl, Nat.le_of_ble_eq_true rfl⟩) (kpreVA hP hK hN (Nat.le_trans hz hS.1)) rfl rfl hl.1 rfl (lv_room (Nat.le_of_ble_eq_true rfl)) dL_groups_135 ⟨Nat.le_of_ble_eq_true rfl, Nat.le_of_ble_eq_true rfl⟩) hS (fun H locs hP hS => ?_)
            refine lv_iload hx hb dL_groups_138 (lv_at hl 7 rfl) ?_
            refine lv_icmp_ne (tgt := 205) hx hb dL_groups_140 (by decide) (fun g => ?_) (fun g => ?_)
            · rw [if_neg g] at h
              refine lv_iconst (v := (0 : Int32)) hx hb dL_groups_205 (by decide) ?_
              obtain rfl := Option.some.inj h
              exact W.zret (v := (0 : Int32)) hx hb hr rfl (fun t ht hW => ⟨⟨_, (), rfl, rfl, by dsimp only; rw [ht]; exact hP.sub⟩, hS.F ht⟩) hS.2.2 dL_groups_206
            · rw [if_pos g] at h
              refine lv_aload_n hx hb dL_groups_143 rfl (lv_at hl 1 rfl) ?_
              refine lv_iconst (v := (0 : Int32)) hx hb dL_groups_144 (by decide) ?_
              refine lv_iload hx hb dL_groups_145 (lv_at hl 13 rfl) ?_
              refine lv_iconst (v := (1 : Int32)) hx hb dL_groups_147 (by decide) ?_
              obtain ⟨q58, h57, h⟩ := Option.bind_eq_some_iff.mp h
              refine kciA (va_runV (As := [.int (0 : Int32), .int y13, .int (1 : Int32)]) (rest := []) ⟨hx, hb, hml, hown, hts⟩ (aX9_beside l D cI cC cS lo aV vO0 (X ++ wAR cI aK 4 c1_0) (0 : Int32) y13 (1 : Int32) h57) (cwV 3 hts gL_groups_X9_beside rfl rfl rfl (by decide +kernel) ⟨Nat.le_of_ble_eq_true rfl, Nat.le_of_ble_eq_true rfl⟩) (kpreVA hP hK hN (Nat.le_trans hz hS.1)) rfl rfl hl.1 rfl (lv_room (Nat.le_of_ble_eq_true rfl)) dL_groups_148 ⟨Nat.le_of_ble_eq_true rfl, Nat.le_of_ble_eq_true rfl⟩) hS (fun H locs hP hS => ?_)
              refine lv_iload hx hb dL_groups_151 (lv_at hl 9 rfl) ?_
              refine lv_if_ne (tgt := 161) hx hb dL_groups_153 (by decide) (fun g => ?_) (fun g => ?_)
              · rw [if_neg g] at h
                refine lv_iload_n hx hb dL_groups_161 rfl (lv_at hl 4 rfl) ?_
                exact j162 c1_0 y1 y2 y3 y4 y6 y7 y8 y9 y10 y11 (y12 + q54) y13 q58 y3 _ _ _ h hP hS (lv_sub hl [1, 2, 3, 4, 5, 6, 7, 8, 9, 10, 11, 12, 0, 13] rfl)
              · rw [if_pos g] at h
                refine lv_bipush (v := (-5 : Int32)) hx hb dL_groups_156 (by decide) ?_
                refine lv_goto (tgt := 162) hx hb dL_groups_158 (by decide) ?_
                exact j162 c1_0 y1 y2 y3 y4 y6 y7 y8 y9 y10 y11 (y12 + q54) y13 q58 (-5 : Int32) _ _ _ h hP hS (lv_sub hl [1, 2, 3, 4, 5, 6, 7, 8, 9, 10, 11, 12, 0, 13] rfl)
      have j78 : ∀ (c1_0 : (Nat → Int32)) (y1 : Int32) (y2 : Int32) (y3 : Int32) (y4 : Int32) (y6 : Int32) (y7 : Int32) (y8 : Int32) (t0 : Int32) (H : Heap) (locs : List Loc) (ls : Array Slot), pL_groups_j78 vO0 (pL_groups_L15 vO0 nL15) c1_0 y1 y2 y3 y4 y6 y7 y8 t0 = some q → (aW D cI cC cS lo aV vO0 (X ++ wAR cI aK 4 c1_0)) H → va_S (fun q => lo ≤ q) s.heap H locs → lv_has ls 14 [(0, .ref aV), (1, .int y1), (2, .int y2), (3, .int y3), (4, .int y4), (5, .ref aK), (6, .int y6), (7, .int y7), (8, .int y8)] → W p l e ({ frames := 7, cells := 1, slots := 4, locals := 160 } : Room) s m ([.ref aV, .int i2] : List Value).toArray below meth c H locs 1 4 (MQ below (va_Qi (fun (r : Int32) (_ : Unit) => r = q) (fun _ t => (aW D cI cC cS lo aV vO0 X) t.heap) (fun q => lo ≤ q)) ([.ref aV, .int i2] : List Value).toArray s 1 4 (fun q => lo ≤ q)) (F0 m 78 ls [.int t0]) := by
        skip
        intro c1_0 y1 y2 y3 y4 y6 y7 y8 t0 H locs ls h hP hS hl
        unfold pL_groups_j78 at h
        refine lv_istore (lv' := [(9, .int t0), (0, .ref aV), (1, .int y1), (2, .int y2), (3, .int y3), (4, .int y4), (5, .ref aK), (6, .int y6), (7, .int y7), (8, .int y8)]) hx hb dL_groups_78 hl (by decide) rfl (fun ls hl => ?_)
        refine lv_aload_n hx hb dL_groups_80 rfl (lv_at hl 1 rfl) ?_
        refine lv_iconst (v := (0 : Int32)) hx hb dL_groups_81 (by decide) ?_
        refine lv_iload_n hx hb dL_groups_82 rfl (lv_at hl 3 rfl) ?_
        refine lv_iload hx hb dL_groups_83 (lv_at hl 8 rfl) ?_
        refine lv_iload_n hx hb dL_groups_85 rfl (lv_at hl 2 rfl) ?_
        obtain ⟨q30, h29, h⟩ := Option.bind_eq_some_iff.mp h
        refine kciA (va_runS (As := [.ref aV, .int (0 : Int32), .int y2, .int y7, .int y1]) (rest := []) ⟨hx, hb, hml, hown, hts⟩ (kL_need l D cI cC cS lo aV vO0 (X ++ wAR cI aK 4 c1_0) (0 : Int32) y2 y7 y1 h29) (cwS 5 hts gL_groups_L_need rfl rfl rfl (by decide +kernel) ⟨Nat.le_of_ble_eq_true rfl, Nat.le_of_ble_eq_true rfl⟩) (kpreA hP hK hN (Nat.le_trans hz hS.1)) rfl rfl hl.1 rfl (lv_room (Nat.le_of_ble_eq_true rfl)) dL_groups_86 ⟨Nat.le_of_ble_eq_true rfl, Nat.le_of_ble_eq_true rfl⟩) hS (fun H locs hP hS => ?_)
        refine lv_istore (lv' := [(10, .int q30), (9, .int t0), (0, .ref aV), (1, .int y1), (2, .int y2), (3, .int y3), (4, .int y4), (5, .ref aK), (6, .int y6), (7, .int y7), (8, .int y8)]) hx hb dL_groups_89 hl (by decide) rfl (fun ls hl => ?_)
        refine lv_aload_n hx hb dL_groups_91 rfl (lv_at hl 2 rfl) ?_
        refine lv_iconst (v := (1 : Int32)) hx hb dL_groups_92 (by decide) ?_
        refine lv_iload_n hx hb dL_groups_93 rfl (lv_at hl 5 rfl) ?_
        refine lv_iload hx hb dL_groups_94 (lv_at hl 10 rfl) ?_
        refine lv_iload_n hx hb dL_groups_96 rfl (lv_at hl 3 rfl) ?_
        obtain ⟨q32, h31, h⟩ := Option.bind_eq_some_iff.mp h
        refine kciA (va_runS (As := [.ref aV, .int (1 : Int32), .int y3, .int y8, .int y1]) (rest := []) ⟨hx, hb, hml, hown, hts⟩ (kL_need l D cI cC cS lo aV vO0 (X ++ wAR cI aK 4 c1_0) (1 : Int32) y3 y8 y1 h31) (cwS 5 hts gL_groups_L_need rfl rfl rfl (by decide +kernel) ⟨Nat.le_of_ble_eq_true rfl, Nat.le_of_ble_eq_true rfl⟩) (kpreA hP hK hN (Nat.le_trans hz hS.1)) rfl rfl hl.1 rfl (lv_room (Nat.le_of_ble_eq_true rfl)) dL_groups_97 ⟨Nat.le_of_ble_eq_true rfl, Nat.le_of_ble_eq_true rfl⟩) hS (fun H locs hP hS => ?_)
        refine lv_istore (lv' := [(11, .int q32), (10, .int q30), (9, .int t0), (0, .ref aV), (1, .int y1), (2, .int y2), (3, .int y3), (4, .int y4), (5, .ref aK), (6, .int y6), (7, .int y7), (8, .int y8)]) hx hb dL_groups_100 hl (by decide) rfl (fun ls hl => ?_)
        refine lv_iconst (v := (0 : Int32)) hx hb dL_groups_102 (by decide) ?_
        refine lv_istore (lv' := [(12, .int (0 : Int32)), (11, .int q32), (10, .int q30), (9, .int t0), (0, .ref aV), (1, .int y1), (2, .int y2), (3, .int y3), (4, .int y4), (5, .ref aK), (6, .int y6), (7, .int y7), (8, .int y8)]) hx hb dL_groups_103 hl (by decide) rfl (fun ls hl => ?_)
        refine lv_iload_n hx hb dL_groups_105 rfl (lv_at hl 6 rfl) ?_
        refine lv_istore (lv' := [(13, .int y2), (12, .int (0 : Int32)), (11, .int q32), (10, .int q30), (9, .int t0), (0, .ref aV), (1, .int y1), (2, .int y2), (3, .int y3), (4, .int y4), (5, .ref aK), (6, .int y6), (7, .int y7), (8, .int y8)]) hx hb dL_groups_106 hl (by decide) rfl (fun ls hl => ?_)
        exact L108 4000 c1_0 y1 y2 y3 y4 y6 y7 y8 t0 q30 q32 (0 : Int32) y2 _ _ _ h hP hS (lv_sub hl [5, 6, 7, 8, 9, 10, 11, 12, 13, 4, 3, 2, 1, 0] rfl)
      have j77 : ∀ (c1_0 : (Nat → Int32)) (y1 : Int32) (y2 : Int32) (y3 : Int32) (y4 : Int32) (y6 : Int32) (y7 : Int32) (y8 : Int32) (H : Heap) (locs : List Loc) (ls : Array Slot), pL_groups_j77 vO0 (pL_groups_L15 vO0 nL15) c1_0 y1 y2 y3 y4 y6 y7 y8 = some q → (aW D cI cC cS lo aV vO0 (X ++ wAR cI aK 4 c1_0)) H → va_S (fun q => lo ≤ q) s.heap H locs → lv_has ls 14 [(0, .ref aV), (1, .int y1), (2, .int y2), (3, .int y3), (4, .int y4), (5, .ref aK), (6, .int y6), (7, .int y7), (8, .int y8)] → W p l e ({ frames := 7, cells := 1, slots := 4, locals := 160 } : Room) s m ([.ref aV, .int i2] : List Value).toArray below meth c H locs 1 4 (MQ below (va_Qi (fun (r : Int32) (_ : Unit) => r = q) (fun _ t => (aW D cI cC cS lo aV vO0 X) t.heap) (fun q => lo ≤ q)) ([.ref aV, .int i2] : List Value).toArray s 1 4 (fun q => lo ≤ q)) (F0 m 77 ls []) := by
        skip
        intro c1_0 y1 y2 y3 y4 y6 y7 y8 H locs ls h hP hS hl
        unfold pL_groups_j77 at h
        refine lv_iconst (v := (3 : Int32)) hx hb dL_groups_77 (by decide) ?_
        exact j78 c1_0 y1 y2 y3 y4 y6 y7 y8 (3 : Int32) _ _ _ h hP hS (lv_sub hl [0, 1, 2, 3, 4, 5, 6, 7, 8] rfl)
      intro c1_0 y1 y2 y3 y4 y6 H locs ls h hP hS hl
      have h : pL_groups_bL15 vO0 (pL_groups_L15 vO0 nL15) c1_0 y1 y2 y3 y4 y6 = some q := h
      unfold pL_groups_bL15 at h
      refine lv_iload hx hb dL_groups_15 (lv_at hl 6 rfl) ?_
      refine lv_aload_n hx hb dL_groups_17 rfl (lv_at hl 0 rfl) ?_
      refine lv_iconst (v := (4 : Int32)) hx hb dL_groups_18 (by decide) ?_
      obtain ⟨q2, h1, h⟩ := Option.bind_eq_some_iff.mp h
      refine kciA (va_runV (As := [.int (4 : Int32)]) (rest := [.int y6]) ⟨hx, hb, hml, hown, hts⟩ (aX9_count l D cI cC cS lo aV vO0 (X ++ wAR cI aK 4 c1_0) (4 : Int32) h1) (cwV 1 hts gL_groups_X9_count rfl rfl rfl (by decide +kernel) ⟨Nat.le_of_ble_eq_true rfl, Nat.le_of_ble_eq_true rfl⟩) (kpreVA hP hK hN (Nat.le_trans hz hS.1)) rfl rfl hl.1 rfl (lv_room (Nat.le_of_ble_eq_true rfl)) dL_groups_19 ⟨Nat.le_of_ble_eq_true rfl, Nat.le_of_ble_eq_true rfl⟩) hS (fun H locs hP hS => ?_)
      refine lv_icmp_ge (tgt := 472) hx hb dL_groups_22 (by decide) (fun g => ?_) (fun g => ?_)
      · rw [if_pos g] at h
        refine lv_aload_n hx hb dL_groups_472 rfl (lv_at hl 0 rfl) ?_
        refine lv_iconst (v := (5 : Int32)) hx hb dL_groups_473 (by decide) ?_
        obtain ⟨q4, h3, h⟩ := Option.bind_eq_some_iff.mp h
        refine kciA (va_runV (As := [.int (5 : Int32)]) (rest := []) ⟨hx, hb, hml, hown, hts⟩ (aX9_count l D cI cC cS lo aV vO0 (X ++ wAR cI aK 4 c1_0) (5 : Int32) h3) (cwV 1 hts gL_groups_X9_count rfl rfl rfl (by decide +kernel) ⟨Nat.le_of_ble_eq_true rfl, Nat.le_of_ble_eq_true rfl⟩) (kpreVA hP hK hN (Nat.le_trans hz hS.1)) rfl rfl hl.1 rfl (lv_room (Nat.le_of_ble_eq_true rfl)) dL_groups_474 ⟨Nat.le_of_ble_eq_true rfl, Nat.le_of_ble_eq_true rfl⟩) hS (fun H locs hP hS => ?_)
        refine lv_aload hx hb dL_groups_477 (lv_at hl 5 rfl) ?_
        refine lv_iconst (v := (0 : Int32)) hx hb dL_groups_479 (by decide) ?_
        obtain ⟨g, h⟩ := kif h
        refine va_iald hx hb hK hP.xr 0 0 rfl rfl (kin g) dL_groups_480 ?_
        refine lv_icmp_ne (tgt := 538) hx hb dL_groups_481 (by decide) (fun g => ?_) (fun g => ?_)
        · rw [if_neg g] at h
          exact j538 c1_0 y2 y3 _ _ _ h hP hS (lv_sub hl [0, 2, 3] rfl)
        · rw [if_pos g] at h
          refine lv_aload_n hx hb dL_groups_484 rfl (lv_at hl 0 rfl) ?_
          refine lv_bipush (v := (6 : Int32)) hx hb dL_groups_485 (by decide) ?_
          obtain ⟨q18, h17, h⟩ := Option.bind_eq_some_iff.mp h
          refine kciA (va_runV (As := [.int (6 : Int32)]) (rest := []) ⟨hx, hb, hml, hown, hts⟩ (aX9_count l D cI cC cS lo aV vO0 (X ++ wAR cI aK 4 c1_0) (6 : Int32) h17) (cwV 1 hts gL_groups_X9_count rfl rfl rfl (by decide +kernel) ⟨Nat.le_of_ble_eq_true rfl, Nat.le_of_ble_eq_true rfl⟩) (kpreVA hP hK hN (Nat.le_trans hz hS.1)) rfl rfl hl.1 rfl (lv_room (Nat.le_of_ble_eq_true rfl)) dL_groups_487 ⟨Nat.le_of_ble_eq_true rfl, Nat.le_of_ble_eq_true rfl⟩) hS (fun H locs hP hS => ?_)
          refine lv_aload hx hb dL_groups_490 (lv_at hl 5 rfl) ?_
          refine lv_iconst (v := (1 : Int32)) hx hb dL_groups_492 (by decide) ?_
          obtain ⟨g, h⟩ := kif h
          refine va_iald hx hb hK hP.xr 0 0 rfl rfl (kin g) dL_groups_493 ?_
          refine lv_icmp_ne (tgt := 538) hx hb dL_groups_494 (by decide) (fun g => ?_) (fun g => ?_)
          · rw [if_neg g] at h
            exact j538 c1_0 y2 y3 _ _ _ h hP hS (lv_sub hl [0, 2, 3] rfl)
          · rw [if_pos g] at h
            refine lv_aload_n hx hb dL_groups_497 rfl (lv_at hl 0 rfl) ?_
            refine lv_bipush (v := (7 : Int32)) hx hb dL_groups_498 (by decide) ?_
            obtain ⟨q20, h19, h⟩ := Option.bind_eq_some_iff.mp h
            refine kciA (va_runV (As := [.int (7 : Int32)]) (rest := []) ⟨hx, hb, hml, hown, hts⟩ (aX9_count l D cI cC cS lo aV vO0 (X ++ wAR cI aK 4 c1_0) (7 : Int32) h19) (cwV 1 hts gL_groups_X9_count rfl rfl rfl (by decide +kernel) ⟨Nat.le_of_ble_eq_true rfl, Nat.le_of_ble_eq_true rfl⟩) (kpreVA hP hK hN (Nat.le_trans hz hS.1)) rfl rfl hl.1 rfl (lv_room (Nat.le_of_ble_eq_true rfl)) dL_groups_500 ⟨Nat.le_of_ble_eq_true rfl, Nat.le_of_ble_eq_true rfl⟩) hS (fun H locs hP hS => ?_)
            refine lv_aload hx hb dL_groups_503 (lv_at hl 5 rfl) ?_
            refine lv_iconst (v := (2 : Int32)) hx hb dL_groups_505 (by decide) ?_
            obtain ⟨g, h⟩ := kif h
            refine va_iald hx hb hK hP.xr 0 0 rfl rfl (kin g) dL_groups_506 ?_
            refine lv_icmp_ne (tgt := 538) hx hb dL_groups_507 (by decide) (fun g => ?_) (fun g => ?_)
            · rw [if_neg g] at h
              exact j538 c1_0 y2 y3 _ _ _ h hP hS (lv_sub hl [0, 2, 3] rfl)
            · rw [if_pos g] at h
              refine lv_aload_n hx hb dL_groups_510 rfl (lv_at hl 0 rfl) ?_
              refine lv_bipush (v := (8 : Int32)) hx hb dL_groups_511 (by decide) ?_
              obtain ⟨q22, h21, h⟩ := Option.bind_eq_some_iff.mp h
              refine kciA (va_runV (As := [.int (8 : Int32)]) (rest := []) ⟨hx, hb, hml, hown, hts⟩ (aX9_count l D cI cC cS lo aV vO0 (X ++ wAR cI aK 4 c1_0) (8 : Int32) h21) (cwV 1 hts gL_groups_X9_count rfl rfl rfl (by decide +kernel) ⟨Nat.le_of_ble_eq_true rfl, Nat.le_of_ble_eq_true rfl⟩) (kpreVA hP hK hN (Nat.le_trans hz hS.1)) rfl rfl hl.1 rfl (lv_room (Nat.le_of_ble_eq_true rfl)) dL_groups_513 ⟨Nat.le_of_ble_eq_true rfl, Nat.le_of_ble_eq_true rfl⟩) hS (fun H locs hP hS => ?_)
              refine lv_aload hx hb dL_groups_516 (lv_at hl 5 rfl) ?_
              refine lv_iconst (v := (3 : Int32)) hx hb dL_groups_518 (by decide) ?_
              obtain ⟨g, h⟩ := kif h
              refine va_iald hx hb hK hP.xr 0 0 rfl rfl (kin g) dL_groups_519 ?_
              refine lv_icmp_ne (tgt := 538) hx hb dL_groups_520 (by decide) (fun g => ?_) (fun g => ?_)
              · rw [if_neg g] at h
                exact j538 c1_0 y2 y3 _ _ _ h hP hS (lv_sub hl [0, 2, 3] rfl)
              · rw [if_pos g] at h
                refine lv_aload_n hx hb dL_groups_523 rfl (lv_at hl 0 rfl) ?_
                refine lv_bipush (v := (10 : Int32)) hx hb dL_groups_524 (by decide) ?_
                obtain ⟨q24, h23, h⟩ := Option.bind_eq_some_iff.mp h
                refine kciA (va_runV (As := [.int (10 : Int32)]) (rest := []) ⟨hx, hb, hml, hown, hts⟩ (aX9_count l D cI cC cS lo aV vO0 (X ++ wAR cI aK 4 c1_0) (10 : Int32) h23) (cwV 1 hts gL_groups_X9_count rfl rfl rfl (by decide +kernel) ⟨Nat.le_of_ble_eq_true rfl, Nat.le_of_ble_eq_true rfl⟩) (kpreVA hP hK hN (Nat.le_trans hz hS.1)) rfl rfl hl.1 rfl (lv_room (Nat.le_of_ble_eq_true rfl)) dL_groups_526 ⟨Nat.le_of_ble_eq_true rfl, Nat.le_of_ble_eq_true rfl⟩) hS (fun H locs hP hS => ?_)
                refine lv_iload hx hb dL_groups_529 (lv_at hl 4 rfl) ?_
                refine lv_icmp_ne (tgt := 538) hx hb dL_groups_531 (by decide) (fun g => ?_) (fun g => ?_)
                · rw [if_neg g] at h
                  exact j538 c1_0 y2 y3 _ _ _ h hP hS (lv_sub hl [0, 2, 3] rfl)
                · rw [if_pos g] at h
                  refine lv_iconst (v := (1 : Int32)) hx hb dL_groups_534 (by decide) ?_
                  refine lv_goto (tgt := 539) hx hb dL_groups_535 (by decide) ?_
                  exact j539 c1_0 y2 y3 (1 : Int32) _ _ _ h hP hS (lv_sub hl [0, 2, 3] rfl)
      · rw [if_neg g] at h
        refine lv_aload_n hx hb dL_groups_25 rfl (lv_at hl 0 rfl) ?_
        refine lv_iload hx hb dL_groups_26 (lv_at hl 6 rfl) ?_
        refine lv_iconst (v := (2 : Int32)) hx hb dL_groups_28 (by decide) ?_
        obtain ⟨q26, h25, h⟩ := Option.bind_eq_some_iff.mp h
        refine kciA (va_runV (As := [.int y6, .int (2 : Int32)]) (rest := []) ⟨hx, hb, hml, hown, hts⟩ (aX9_group l D cI cC cS lo aV vO0 (X ++ wAR cI aK 4 c1_0) y6 (2 : Int32) h25) (cwV 2 hts gL_groups_X9_group rfl rfl rfl (by decide +kernel) ⟨Nat.le_of_ble_eq_true rfl, Nat.le_of_ble_eq_true rfl⟩) (kpreVA hP hK hN (Nat.le_trans hz hS.1)) rfl rfl hl.1 rfl (lv_room (Nat.le_of_ble_eq_true rfl)) dL_groups_29 ⟨Nat.le_of_ble_eq_true rfl, Nat.le_of_ble_eq_true rfl⟩) hS (fun H locs hP hS => ?_)
        refine lv_istore (lv' := [(7, .int q26), (0, .ref aV), (1, .int y1), (2, .int y2), (3, .int y3), (4, .int y4), (5, .ref aK), (6, .int y6)]) hx hb dL_groups_32 hl (by decide) rfl (fun ls hl => ?_)
        refine lv_aload_n hx hb dL_groups_34 rfl (lv_at hl 1 rfl) ?_
        refine lv_iload hx hb dL_groups_35 (lv_at hl 7 rfl) ?_
        refine lv_iconst (v := (4 : Int32)) hx hb dL_groups_37 (by decide) ?_
        obtain ⟨q28, h27, h⟩ := Option.bind_eq_some_iff.mp h
        refine kciA (va_runV (As := [.int y6, .int (4 : Int32)]) (rest := []) ⟨hx, hb, hml, hown, hts⟩ (aX9_group l D cI cC cS lo aV vO0 (X ++ wAR cI aK 4 c1_0) y6 (4 : Int32) h27) (cwV 2 hts gL_groups_X9_group rfl rfl rfl (by decide +kernel) ⟨Nat.le_of_ble_eq_true rfl, Nat.le_of_ble_eq_true rfl⟩) (kpreVA hP hK hN (Nat.le_trans hz hS.1)) rfl rfl hl.1 rfl (lv_room (Nat.le_of_ble_eq_true rfl)) dL_groups_38 ⟨Nat.le_of_ble_eq_true rfl, Nat.le_of_ble_eq_true rfl⟩) hS (fun H locs hP hS => ?_)
        refine lv_istore (lv' := [(8, .int q28), (7, .int q26), (0, .ref aV), (1, .int y1), (2, .int y2), (3, .int y3), (4, .int y4), (5, .ref aK), (6, .int y6)]) hx hb dL_groups_41 hl (by decide) rfl (fun ls hl => ?_)
        refine lv_iload hx hb dL_groups_43 (lv_at hl 0 rfl) ?_
        refine lv_if_ne (tgt := 52) hx hb dL_groups_45 (by decide) (fun g => ?_) (fun g => ?_)
        · rw [if_neg g] at h
          refine lv_iload hx hb dL_groups_52 (lv_at hl 1 rfl) ?_
          refine lv_if_ne (tgt := 61) hx hb dL_groups_54 (by decide) (fun g => ?_) (fun g => ?_)
          · rw [if_neg g] at h
            refine lv_iload hx hb dL_groups_61 (lv_at hl 1 rfl) ?_
            refine lv_iconst (v := (1 : Int32)) hx hb dL_groups_63 (by decide) ?_
            refine lv_icmp_ne (tgt := 77) hx hb dL_groups_64 (by decide) (fun g => ?_) (fun g => ?_)
            · rw [if_neg g] at h
              exact j77 c1_0 y1 y2 y3 y4 y6 q26 q28 _ _ _ h hP hS (lv_sub hl [2, 3, 4, 5, 6, 7, 8, 1, 0] rfl)
            · rw [if_pos g] at h
              refine lv_iload hx hb dL_groups_67 (lv_at hl 0 rfl) ?_
              refine lv_iconst (v := (1 : Int32)) hx hb dL_groups_69 (by decide) ?_
              refine lv_icmp_ne (tgt := 77) hx hb dL_groups_70 (by decide) (fun g => ?_) (fun g => ?_)
              · rw [if_neg g] at h
                exact j77 c1_0 y1 y2 y3 y4 y6 q26 q28 _ _ _ h hP hS (lv_sub hl [2, 3, 4, 5, 6, 7, 8, 1, 0] rfl)
              · rw [if_pos g] at h
                refine lv_iconst (v := (0 : Int32)) hx hb dL_groups_73 (by decide) ?_
                refine lv_goto (tgt := 78) hx hb dL_groups_74 (by decide) ?_
                exact j78 c1_0 y1 y2 y3 y4 y6 q26 q28 (0 : Int32) _ _ _ h hP hS (lv_sub hl [2, 3, 4, 5, 6, 7, 8, 1, 0] rfl)
          · rw [if_pos g] at h
            refine lv_iconst (v := (2 : Int32)) hx hb dL_groups_57 (by decide) ?_
            refine lv_goto (tgt := 78) hx hb dL_groups_58 (by decide) ?_
            exact j78 c1_0 y1 y2 y3 y4 y6 q26 q28 (2 : Int32) _ _ _ h hP hS (lv_sub hl [2, 3, 4, 5, 6, 7, 8, 1, 0] rfl)
        · rw [if_pos g] at h
          refine lv_iconst (v := (1 : Int32)) hx hb dL_groups_48 (by decide) ?_
          refine lv_goto (tgt := 78) hx hb dL_groups_49 (by decide) ?_
          exact j78 c1_0 y1 y2 y3 y4 y6 q26 q28 (1 : Int32) _ _ _ h hP hS (lv_sub hl [2, 3, 4, 5, 6, 7, 8, 1, 0] rfl)
  refine lv_astore (lv' := [(5, .ref aK), (4, .int (0 : Int32)), (3, .int (0 : Int32)), (2, .int (0 : Int32)), (0, .ref aV), (1, .int i2)]) hx hb dL_groups_10 hl (by decide) rfl (fun ls hl => ?_)
  refine lv_iconst (v := (0 : Int32)) hx hb dL_groups_12 (by decide) ?_
  refine lv_istore (lv' := [(6, .int (0 : Int32)), (5, .ref aK), (4, .int (0 : Int32)), (3, .int (0 : Int32)), (2, .int (0 : Int32)), (0, .ref aV), (1, .int i2)]) hx hb dL_groups_13 hl (by decide) rfl (fun ls hl => ?_)
  exact L15 4000 z0 i2 (0 : Int32) (0 : Int32) (0 : Int32) (0 : Int32) _ _ _ h hP hS (lv_sub hl [5, 6, 4, 3, 2, 1, 0] rfl)
