-- walks of the law's helpers (printed by wip/p24/gen/g3.py)
set_option maxHeartbeats 8000000 in
set_option maxRecDepth 100000 in
theorem kL_refers (l : Launch) (D : va_G) (cI cC cS : ClassId) (lo aV : Nat) (vO0 : Sg) (X : va_W) (i2 : Int32) (i3 : Int32) (i4 : Int32) {q : Int32 × Sg} (h : pL_refers vO0 i2 i3 i4 = some q) : kAc l yL_refers wsL_refers ({ frames := 7, cells := 0, slots := 0, locals := 161 } : Room) D (kTy cI cC cS) lo [.ref aV, .int i2, .int i3, .int i4] (aW D cI cC cS lo aV vO0 X) (aW D cI cC cS lo aV q.2 X) q.1 0 0 := by
  refine Met.ofW (cc := cL_refers) (maxL := 21) (ret := (some .boolean)) (by decide) rfl ?_
  intro p e s m args below meth c s₁ B hml hv
  obtain ⟨rfl, hP, hK, hN, hz⟩ := hv
  have hx := B.exec
  have hb := B.bytes
  have hr := B.returns
  have hts := atoms_spec (ws := wsL_refers) B.pre
  have hown : s.vm.findClass RL = some m.cls := findClass_of_methodNamed B.named
  have hlocks := B.notSynchronized
  have hS : va_S (fun q => lo ≤ q) s.heap s.heap [] := va_S.rf
  have hl := lv_entry ([.ref aV, .int i2, .int i3, .int i4]) (n := 21) (Nat.le_of_ble_eq_true rfl)
  rw [lg_entry_eq]
  generalize (lg_sl ([.ref aV, .int i2, .int i3, .int i4]) ++ List.replicate (21 - (lg_sl ([.ref aV, .int i2, .int i3, .int i4])).length) Slot.unset).toArray = ls at hl ⊢
  have hl : lv_has ls 21 [(0, .ref aV), (1, .int i2), (2, .int i3), (3, .int i4)] := hl
  have j601 : ∀ (c0_0 : Sg) (y1 : Int32) (y10 : Int32) (y19 : Int32) (t0 : Int32) (H : Heap) (locs : List Loc) (ls : Array Slot), pL_refers_j601  c0_0 y1 y10 y19 t0 = some q → (aW D cI cC cS lo aV c0_0 X) H → va_S (fun q => lo ≤ q) s.heap H locs → lv_has ls 21 [(0, .ref aV), (1, .int y1), (10, .int y10), (19, .int y19)] → W p l e ({ frames := 7, cells := 0, slots := 0, locals := 161 } : Room) s m ([.ref aV, .int i2, .int i3, .int i4] : List Value).toArray below meth c H locs 0 0 (MQ below (va_Qi (fun (r : Int32) (_ : Unit) => r = q.1) (fun _ t => (aW D cI cC cS lo aV q.2 X) t.heap) (fun q => lo ≤ q)) ([.ref aV, .int i2, .int i3, .int i4] : List Value).toArray s 0 0 (fun q => lo ≤ q)) (F0 m 601 ls [.int t0]) := by
    clear h hP hS hl
    intro c0_0 y1 y10 y19 t0 H locs ls h hP hS hl
    unfold pL_refers_j601 at h
    refine lv_istore (lv' := [(20, .int t0), (0, .ref aV), (1, .int y1), (10, .int y10), (19, .int y19)]) hx hb dL_refers_601 hl (by decide) rfl (fun ls hl => ?_)
    refine lv_iload hx hb dL_refers_603 (lv_at hl 4 rfl) ?_
    refine lv_if_eq (tgt := 634) hx hb dL_refers_605 (by decide) (fun g => ?_) (fun g => ?_)
    · rw [if_pos g] at h
      refine lv_iconst (v := (0 : Int32)) hx hb dL_refers_634 (by decide) ?_
      obtain rfl := Option.some.inj h
      exact W.zret (v := (0 : Int32)) hx hb hr rfl (fun t ht hW => ⟨⟨_, (), rfl, rfl, by dsimp only; rw [ht]; exact hP⟩, hS.F ht⟩) hS.2.2 dL_refers_635
    · rw [if_neg g] at h
      refine lv_iload hx hb dL_refers_608 (lv_at hl 3 rfl) ?_
      refine lv_if_eq (tgt := 634) hx hb dL_refers_610 (by decide) (fun g => ?_) (fun g => ?_)
      · rw [if_pos g] at h
        refine lv_iconst (v := (0 : Int32)) hx hb dL_refers_634 (by decide) ?_
        obtain rfl := Option.some.inj h
        exact W.zret (v := (0 : Int32)) hx hb hr rfl (fun t ht hW => ⟨⟨_, (), rfl, rfl, by dsimp only; rw [ht]; exact hP⟩, hS.F ht⟩) hS.2.2 dL_refers_635
      · rw [if_neg g] at h
        refine lv_iload hx hb dL_refers_613 (lv_at hl 0 rfl) ?_
        refine lv_if_eq (tgt := 634) hx hb dL_refers_615 (by decide) (fun g => ?_) (fun g => ?_)
        · rw [if_pos g] at h
          refine lv_iconst (v := (0 : Int32)) hx hb dL_refers_634 (by decide) ?_
          obtain rfl := Option.some.inj h
          exact W.zret (v := (0 : Int32)) hx hb hr rfl (fun t ht hW => ⟨⟨_, (), rfl, rfl, by dsimp only; rw [ht]; exact hP⟩, hS.F ht⟩) hS.2.2 dL_refers_635
        · rw [if_neg g] at h
          refine lv_aload_n hx hb dL_refers_618 rfl (lv_at hl 1 rfl) ?_
          refine lv_iload_n hx hb dL_refers_619 rfl (lv_at hl 2 rfl) ?_
          refine lv_bipush (v := (7 : Int32)) hx hb dL_refers_620 (by decide) ?_
          obtain ⟨q60, h59, h⟩ := Option.bind_eq_some_iff.mp h
          refine kciA (va_runV (As := [.int y1, .int (7 : Int32)]) (rest := []) ⟨hx, hb, hml, hown, hts⟩ (aX9_refer l D cI cC cS lo aV c0_0 (X) y1 (7 : Int32) h59) (cwV 2 hts gL_refers_X9_refer rfl rfl rfl (by decide +kernel) ⟨Nat.le_of_ble_eq_true rfl, Nat.le_of_ble_eq_true rfl⟩) (kpreVA hP hK hN (Nat.le_trans hz hS.1)) rfl rfl hl.1 rfl (lv_room (Nat.le_of_ble_eq_true rfl)) dL_refers_622 ⟨Nat.le_of_ble_eq_true rfl, Nat.le_of_ble_eq_true rfl⟩) hS (fun H locs hP hS => ?_)
          refine lv_bipush (v := (-2 : Int32)) hx hb dL_refers_625 (by decide) ?_
          refine lv_icmp_ne (tgt := 634) hx hb dL_refers_627 (by decide) (fun g => ?_) (fun g => ?_)
          · rw [if_neg g] at h
            refine lv_iconst (v := (0 : Int32)) hx hb dL_refers_634 (by decide) ?_
            obtain rfl := Option.some.inj h
            exact W.zret (v := (0 : Int32)) hx hb hr rfl (fun t ht hW => ⟨⟨_, (), rfl, rfl, by dsimp only; rw [ht]; exact hP⟩, hS.F ht⟩) hS.2.2 dL_refers_635
          · rw [if_pos g] at h
            refine lv_iconst (v := (1 : Int32)) hx hb dL_refers_630 (by decide) ?_
            refine lv_goto (tgt := 635) hx hb dL_refers_631 (by decide) ?_
            obtain rfl := Option.some.inj h
            exact W.zret (v := (1 : Int32)) hx hb hr rfl (fun t ht hW => ⟨⟨_, (), rfl, rfl, by dsimp only; rw [ht]; exact hP⟩, hS.F ht⟩) hS.2.2 dL_refers_635
  have j548 : ∀ (c0_0 : Sg) (y1 : Int32) (y5 : Int32) (y9 : Int32) (y10 : Int32) (t0 : Int32) (H : Heap) (locs : List Loc) (ls : Array Slot), pL_refers_j548  c0_0 y1 y5 y9 y10 t0 = some q → (aW D cI cC cS lo aV c0_0 X) H → va_S (fun q => lo ≤ q) s.heap H locs → lv_has ls 21 [(0, .ref aV), (1, .int y1), (5, .int y5), (9, .int y9), (10, .int y10)] → W p l e ({ frames := 7, cells := 0, slots := 0, locals := 161 } : Room) s m ([.ref aV, .int i2, .int i3, .int i4] : List Value).toArray below meth c H locs 0 0 (MQ below (va_Qi (fun (r : Int32) (_ : Unit) => r = q.1) (fun _ t => (aW D cI cC cS lo aV q.2 X) t.heap) (fun q => lo ≤ q)) ([.ref aV, .int i2, .int i3, .int i4] : List Value).toArray s 0 0 (fun q => lo ≤ q)) (F0 m 548 ls [.int t0]) := by
    clear h hP hS hl
    intro c0_0 y1 y5 y9 y10 t0 H locs ls h hP hS hl
    unfold pL_refers_j548 at h
    refine lv_istore (lv' := [(19, .int t0), (0, .ref aV), (1, .int y1), (5, .int y5), (9, .int y9), (10, .int y10)]) hx hb dL_refers_548 hl (by decide) rfl (fun ls hl => ?_)
    refine lv_aload_n hx hb dL_refers_550 rfl (lv_at hl 1 rfl) ?_
    obtain ⟨q48, h47, h⟩ := Option.bind_eq_some_iff.mp h
    refine kciA (va_runV (As := []) (rest := []) ⟨hx, hb, hml, hown, hts⟩ (aX9_clearText l D cI cC cS lo aV c0_0 (X) h47) (cwV 0 hts gL_refers_X9_clearText rfl rfl rfl (by decide +kernel) ⟨Nat.le_of_ble_eq_true rfl, Nat.le_of_ble_eq_true rfl⟩) (kpreVA hP hK hN (Nat.le_trans hz hS.1)) rfl rfl hl.1 rfl (lv_room (Nat.le_of_ble_eq_true rfl)) dL_refers_551 ⟨Nat.le_of_ble_eq_true rfl, Nat.le_of_ble_eq_true rfl⟩) hS (fun H locs hP hS => ?_)
    refine lv_pop hx hb dL_refers_554 rfl ?_
    refine lv_aload_n hx hb dL_refers_555 rfl (lv_at hl 1 rfl) ?_
    refine lv_aload_n hx hb dL_refers_556 rfl (lv_at hl 1 rfl) ?_
    refine lv_iload_n hx hb dL_refers_557 rfl (lv_at hl 2 rfl) ?_
    refine lv_iload hx hb dL_refers_558 (lv_at hl 3 rfl) ?_
    refine lv_iconst (v := (0 : Int32)) hx hb dL_refers_560 (by decide) ?_
    obtain ⟨q50, h49, h⟩ := Option.bind_eq_some_iff.mp h
    refine kciA (va_runV (As := [.int y1, .int y5, .int (0 : Int32)]) (rest := [.ref aV]) ⟨hx, hb, hml, hown, hts⟩ (aX9_verse l D cI cC cS lo aV q48.2 (X) y1 y5 (0 : Int32) h49) (cwV 3 hts gL_refers_X9_verse rfl rfl rfl (by decide +kernel) ⟨Nat.le_of_ble_eq_true rfl, Nat.le_of_ble_eq_true rfl⟩) (kpreVA hP hK hN (Nat.le_trans hz hS.1)) rfl rfl hl.1 rfl (lv_room (Nat.le_of_ble_eq_true rfl)) dL_refers_561 ⟨Nat.le_of_ble_eq_true rfl, Nat.le_of_ble_eq_true rfl⟩) hS (fun H locs hP hS => ?_)
    obtain ⟨q52, h51, h⟩ := Option.bind_eq_some_iff.mp h
    refine kciA (va_runS (As := [.ref aV, .int q50]) (rest := []) ⟨hx, hb, hml, hown, hts⟩ (kL_digits l D cI cC cS lo aV q48.2 (X) q50 h51) (cwS 2 hts gL_refers_L_digits rfl rfl rfl (by decide +kernel) ⟨Nat.le_of_ble_eq_true rfl, Nat.le_of_ble_eq_true rfl⟩) (kpreA hP hK hN (Nat.le_trans hz hS.1)) rfl rfl hl.1 rfl (lv_room (Nat.le_of_ble_eq_true rfl)) dL_refers_564 ⟨Nat.le_of_ble_eq_true rfl, Nat.le_of_ble_eq_true rfl⟩) hS (fun H locs hP hS => ?_)
    refine lv_pop hx hb dL_refers_567 rfl ?_
    refine lv_aload_n hx hb dL_refers_568 rfl (lv_at hl 1 rfl) ?_
    refine lv_bipush (v := (58 : Int32)) hx hb dL_refers_569 (by decide) ?_
    obtain ⟨q54, h53, h⟩ := Option.bind_eq_some_iff.mp h
    refine kciA (va_runV (As := [.int (58 : Int32)]) (rest := []) ⟨hx, hb, hml, hown, hts⟩ (aX9_type l D cI cC cS lo aV q52.2 (X) (58 : Int32) h53) (cwV 1 hts gL_refers_X9_type rfl rfl rfl (by decide +kernel) ⟨Nat.le_of_ble_eq_true rfl, Nat.le_of_ble_eq_true rfl⟩) (kpreVA hP hK hN (Nat.le_trans hz hS.1)) rfl rfl hl.1 rfl (lv_room (Nat.le_of_ble_eq_true rfl)) dL_refers_571 ⟨Nat.le_of_ble_eq_true rfl, Nat.le_of_ble_eq_true rfl⟩) hS (fun H locs hP hS => ?_)
    refine lv_pop hx hb dL_refers_574 rfl ?_
    refine lv_aload_n hx hb dL_refers_575 rfl (lv_at hl 1 rfl) ?_
    refine lv_bipush (v := (48 : Int32)) hx hb dL_refers_576 (by decide) ?_
    obtain ⟨q56, h55, h⟩ := Option.bind_eq_some_iff.mp h
    refine kciA (va_runV (As := [.int (48 : Int32)]) (rest := []) ⟨hx, hb, hml, hown, hts⟩ (aX9_type l D cI cC cS lo aV q54.2 (X) (48 : Int32) h55) (cwV 1 hts gL_refers_X9_type rfl rfl rfl (by decide +kernel) ⟨Nat.le_of_ble_eq_true rfl, Nat.le_of_ble_eq_true rfl⟩) (kpreVA hP hK hN (Nat.le_trans hz hS.1)) rfl rfl hl.1 rfl (lv_room (Nat.le_of_ble_eq_true rfl)) dL_refers_578 ⟨Nat.le_of_ble_eq_true rfl, Nat.le_of_ble_eq_true rfl⟩) hS (fun H locs hP hS => ?_)
    refine lv_pop hx hb dL_refers_581 rfl ?_
    refine lv_aload_n hx hb dL_refers_582 rfl (lv_at hl 1 rfl) ?_
    refine lv_iload_n hx hb dL_refers_583 rfl (lv_at hl 2 rfl) ?_
    refine lv_iconst (v := (0 : Int32)) hx hb dL_refers_584 (by decide) ?_
    obtain ⟨q58, h57, h⟩ := Option.bind_eq_some_iff.mp h
    refine kciA (va_runV (As := [.int y1, .int (0 : Int32)]) (rest := []) ⟨hx, hb, hml, hown, hts⟩ (aX9_refer l D cI cC cS lo aV q56.2 (X) y1 (0 : Int32) h57) (cwV 2 hts gL_refers_X9_refer rfl rfl rfl (by decide +kernel) ⟨Nat.le_of_ble_eq_true rfl, Nat.le_of_ble_eq_true rfl⟩) (kpreVA hP hK hN (Nat.le_trans hz hS.1)) rfl rfl hl.1 rfl (lv_room (Nat.le_of_ble_eq_true rfl)) dL_refers_585 ⟨Nat.le_of_ble_eq_true rfl, Nat.le_of_ble_eq_true rfl⟩) hS (fun H locs hP hS => ?_)
    refine lv_bipush (v := (-100 : Int32)) hx hb dL_refers_588 (by decide) ?_
    refine lv_iload hx hb dL_refers_590 (lv_at hl 4 rfl) ?_
    refine lv_isub hx hb dL_refers_592 ?_
    refine lv_icmp_ne (tgt := 600) hx hb dL_refers_593 (by decide) (fun g => ?_) (fun g => ?_)
    · rw [if_neg g] at h
      refine lv_iconst (v := (0 : Int32)) hx hb dL_refers_600 (by decide) ?_
      exact j601 q56.2 y1 y10 t0 (0 : Int32) _ _ _ h hP hS (lv_sub hl [1, 2, 5, 0] rfl)
    · rw [if_pos g] at h
      refine lv_iconst (v := (1 : Int32)) hx hb dL_refers_596 (by decide) ?_
      refine lv_goto (tgt := 601) hx hb dL_refers_597 (by decide) ?_
      exact j601 q56.2 y1 y10 t0 (1 : Int32) _ _ _ h hP hS (lv_sub hl [1, 2, 5, 0] rfl)
  have j547 : ∀ (c0_0 : Sg) (y1 : Int32) (y5 : Int32) (y9 : Int32) (y10 : Int32) (H : Heap) (locs : List Loc) (ls : Array Slot), pL_refers_j547  c0_0 y1 y5 y9 y10 = some q → (aW D cI cC cS lo aV c0_0 X) H → va_S (fun q => lo ≤ q) s.heap H locs → lv_has ls 21 [(0, .ref aV), (1, .int y1), (5, .int y5), (9, .int y9), (10, .int y10)] → W p l e ({ frames := 7, cells := 0, slots := 0, locals := 161 } : Room) s m ([.ref aV, .int i2, .int i3, .int i4] : List Value).toArray below meth c H locs 0 0 (MQ below (va_Qi (fun (r : Int32) (_ : Unit) => r = q.1) (fun _ t => (aW D cI cC cS lo aV q.2 X) t.heap) (fun q => lo ≤ q)) ([.ref aV, .int i2, .int i3, .int i4] : List Value).toArray s 0 0 (fun q => lo ≤ q)) (F0 m 547 ls []) := by
    clear h hP hS hl
    intro c0_0 y1 y5 y9 y10 H locs ls h hP hS hl
    unfold pL_refers_j547 at h
    refine lv_iconst (v := (0 : Int32)) hx hb dL_refers_547 (by decide) ?_
    exact j548 c0_0 y1 y5 y9 y10 (0 : Int32) _ _ _ h hP hS (lv_sub hl [0, 1, 2, 3, 4] rfl)
  have j540 : ∀ (c0_0 : Sg) (y1 : Int32) (y5 : Int32) (y9 : Int32) (y10 : Int32) (t0 : Int32) (t1 : Int32) (H : Heap) (locs : List Loc) (ls : Array Slot), pL_refers_j540  c0_0 y1 y5 y9 y10 t0 t1 = some q → (aW D cI cC cS lo aV c0_0 X) H → va_S (fun q => lo ≤ q) s.heap H locs → lv_has ls 21 [(0, .ref aV), (1, .int y1), (5, .int y5), (9, .int y9), (10, .int y10)] → W p l e ({ frames := 7, cells := 0, slots := 0, locals := 161 } : Room) s m ([.ref aV, .int i2, .int i3, .int i4] : List Value).toArray below meth c H locs 0 0 (MQ below (va_Qi (fun (r : Int32) (_ : Unit) => r = q.1) (fun _ t => (aW D cI cC cS lo aV q.2 X) t.heap) (fun q => lo ≤ q)) ([.ref aV, .int i2, .int i3, .int i4] : List Value).toArray s 0 0 (fun q => lo ≤ q)) (F0 m 540 ls [.int t1, .int t0]) := by
    clear h hP hS hl
    intro c0_0 y1 y5 y9 y10 t0 t1 H locs ls h hP hS hl
    unfold pL_refers_j540 at h
    refine lv_icmp_ne (tgt := 547) hx hb dL_refers_540 (by decide) (fun g => ?_) (fun g => ?_)
    · rw [if_neg g] at h
      exact j547 c0_0 y1 y5 y9 y10 _ _ _ h hP hS (lv_sub hl [0, 1, 2, 3, 4] rfl)
    · rw [if_pos g] at h
      refine lv_iconst (v := (1 : Int32)) hx hb dL_refers_543 (by decide) ?_
      refine lv_goto (tgt := 548) hx hb dL_refers_544 (by decide) ?_
      exact j548 c0_0 y1 y5 y9 y10 (1 : Int32) _ _ _ h hP hS (lv_sub hl [0, 1, 2, 3, 4] rfl)
  have L322 : ∀ (nL322 : Nat) (c0_0 : Sg) (y1 : Int32) (y5 : Int32) (y6 : Int32) (y9 : Int32) (y10 : Int32) (y12 : Int32) (y13 : Int32) (y14 : Int32) (y15 : Int32) (y16 : Int32) (y17 : Int32) (y18 : Int32) (y19 : Int32) (H : Heap) (locs : List Loc) (ls : Array Slot), pL_refers_L322  nL322 c0_0 y1 y5 y6 y9 y10 y12 y13 y14 y15 y16 y17 y18 y19 = some q → (aW D cI cC cS lo aV c0_0 X) H → va_S (fun q => lo ≤ q) s.heap H locs → lv_has ls 21 [(0, .ref aV), (1, .int y1), (5, .int y5), (6, .int y6), (9, .int y9), (10, .int y10), (12, .int y12), (13, .int y13), (14, .int y14), (15, .int y15), (16, .int y16), (17, .int y17), (18, .int y18), (19, .int y19)] → W p l e ({ frames := 7, cells := 0, slots := 0, locals := 161 } : Room) s m ([.ref aV, .int i2, .int i3, .int i4] : List Value).toArray below meth c H locs 0 0 (MQ below (va_Qi (fun (r : Int32) (_ : Unit) => r = q.1) (fun _ t => (aW D cI cC cS lo aV q.2 X) t.heap) (fun q => lo ≤ q)) ([.ref aV, .int i2, .int i3, .int i4] : List Value).toArray s 0 0 (fun q => lo ≤ q)) (F0 m 322 ls []) := by
    clear h hP hS hl
    intro nL322
    induction nL322 with
    | zero => intro c0_0 y1 y5 y6 y9 y10 y12 y13 y14 y15 y16 y17 y18 y19 H locs ls h; have h : (none : Option (Int32 × Sg)) = some q := h; cases h
    | succ nL322 ihL322 =>
      have j444 : ∀ (c0_0 : Sg) (y1 : Int32) (y5 : Int32) (y6 : Int32) (y9 : Int32) (y10 : Int32) (y12 : Int32) (y13 : Int32) (y14 : Int32) (y15 : Int32) (y16 : Int32) (y17 : Int32) (y18 : Int32) (y19 : Int32) (H : Heap) (locs : List Loc) (ls : Array Slot), pL_refers_j444 (pL_refers_L322  nL322) c0_0 y1 y5 y6 y9 y10 y12 y13 y14 y15 y16 y17 y18 y19 = some q → (aW D cI cC cS lo aV c0_0 X) H → va_S (fun q => lo ≤ q) s.heap H locs → lv_has ls 21 [(0, .ref aV), (1, .int y1), (5, .int y5), (6, .int y6), (9, .int y9), (10, .int y10), (12, .int y12), (13, .int y13), (14, .int y14), (15, .int y15), (16, .int y16), (17, .int y17), (18, .int y18), (19, .int y19)] → W p l e ({ frames := 7, cells := 0, slots := 0, locals := 161 } : Room) s m ([.ref aV, .int i2, .int i3, .int i4] : List Value).toArray below meth c H locs 0 0 (MQ below (va_Qi (fun (r : Int32) (_ : Unit) => r = q.1) (fun _ t => (aW D cI cC cS lo aV q.2 X) t.heap) (fun q => lo ≤ q)) ([.ref aV, .int i2, .int i3, .int i4] : List Value).toArray s 0 0 (fun q => lo ≤ q)) (F0 m 444 ls []) := by
        skip
        intro c0_0 y1 y5 y6 y9 y10 y12 y13 y14 y15 y16 y17 y18 y19 H locs ls h hP hS hl
        unfold pL_refers_j444 at h
        refine lv_iinc (v := (y19 + (1 : Int32))) (lv' := [(19, .int (y19 + (1 : Int32))), (0, .ref aV), (1, .int y1), (5, .int y5), (6, .int y6), (9, .int y9), (10, .int y10), (12, .int y12), (13, .int y13), (14, .int y14), (15, .int y15), (16, .int y16), (17, .int y17), (18, .int y18)]) hx hb dL_refers_444 hl (k := 13) rfl rfl (by decide) rfl (fun ls hl => ?_)
        refine lv_goto (tgt := 322) hx hb dL_refers_447 (by decide) ?_
        exact ihL322 c0_0 y1 y5 y6 y9 y10 y12 y13 y14 y15 y16 y17 y18 (y19 + (1 : Int32)) _ _ _ h hP hS (lv_sub hl [1, 2, 3, 4, 5, 6, 7, 8, 9, 10, 11, 12, 13, 0] rfl)
      have j442 : ∀ (c0_0 : Sg) (y1 : Int32) (y5 : Int32) (y6 : Int32) (y9 : Int32) (y10 : Int32) (y12 : Int32) (y13 : Int32) (y14 : Int32) (y15 : Int32) (y16 : Int32) (y18 : Int32) (y19 : Int32) (t0 : Int32) (H : Heap) (locs : List Loc) (ls : Array Slot), pL_refers_j442 (pL_refers_L322  nL322) c0_0 y1 y5 y6 y9 y10 y12 y13 y14 y15 y16 y18 y19 t0 = some q → (aW D cI cC cS lo aV c0_0 X) H → va_S (fun q => lo ≤ q) s.heap H locs → lv_has ls 21 [(0, .ref aV), (1, .int y1), (5, .int y5), (6, .int y6), (9, .int y9), (10, .int y10), (12, .int y12), (13, .int y13), (14, .int y14), (15, .int y15), (16, .int y16), (18, .int y18), (19, .int y19)] → W p l e ({ frames := 7, cells := 0, slots := 0, locals := 161 } : Room) s m ([.ref aV, .int i2, .int i3, .int i4] : List Value).toArray below meth c H locs 0 0 (MQ below (va_Qi (fun (r : Int32) (_ : Unit) => r = q.1) (fun _ t => (aW D cI cC cS lo aV q.2 X) t.heap) (fun q => lo ≤ q)) ([.ref aV, .int i2, .int i3, .int i4] : List Value).toArray s 0 0 (fun q => lo ≤ q)) (F0 m 442 ls [.int t0]) := by
        skip
        intro c0_0 y1 y5 y6 y9 y10 y12 y13 y14 y15 y16 y18 y19 t0 H locs ls h hP hS hl
        unfold pL_refers_j442 at h
        refine lv_istore (lv' := [(17, .int t0), (0, .ref aV), (1, .int y1), (5, .int y5), (6, .int y6), (9, .int y9), (10, .int y10), (12, .int y12), (13, .int y13), (14, .int y14), (15, .int y15), (16, .int y16), (18, .int y18), (19, .int y19)]) hx hb dL_refers_442 hl (by decide) rfl (fun ls hl => ?_)
        exact j444 c0_0 y1 y5 y6 y9 y10 y12 y13 y14 y15 y16 t0 y18 y19 _ _ _ h hP hS (lv_sub hl [1, 2, 3, 4, 5, 6, 7, 8, 9, 10, 11, 0, 12, 13] rfl)
      have j403 : ∀ (c0_0 : Sg) (y1 : Int32) (y5 : Int32) (y6 : Int32) (y9 : Int32) (y10 : Int32) (y12 : Int32) (y13 : Int32) (y14 : Int32) (y15 : Int32) (y17 : Int32) (y18 : Int32) (y19 : Int32) (t0 : Int32) (H : Heap) (locs : List Loc) (ls : Array Slot), pL_refers_j403 (pL_refers_L322  nL322) c0_0 y1 y5 y6 y9 y10 y12 y13 y14 y15 y17 y18 y19 t0 = some q → (aW D cI cC cS lo aV c0_0 X) H → va_S (fun q => lo ≤ q) s.heap H locs → lv_has ls 21 [(0, .ref aV), (1, .int y1), (5, .int y5), (6, .int y6), (9, .int y9), (10, .int y10), (12, .int y12), (13, .int y13), (14, .int y14), (15, .int y15), (17, .int y17), (18, .int y18), (19, .int y19)] → W p l e ({ frames := 7, cells := 0, slots := 0, locals := 161 } : Room) s m ([.ref aV, .int i2, .int i3, .int i4] : List Value).toArray below meth c H locs 0 0 (MQ below (va_Qi (fun (r : Int32) (_ : Unit) => r = q.1) (fun _ t => (aW D cI cC cS lo aV q.2 X) t.heap) (fun q => lo ≤ q)) ([.ref aV, .int i2, .int i3, .int i4] : List Value).toArray s 0 0 (fun q => lo ≤ q)) (F0 m 403 ls [.int t0]) := by
        skip
        intro c0_0 y1 y5 y6 y9 y10 y12 y13 y14 y15 y17 y18 y19 t0 H locs ls h hP hS hl
        unfold pL_refers_j403 at h
        refine lv_istore (lv' := [(16, .int t0), (0, .ref aV), (1, .int y1), (5, .int y5), (6, .int y6), (9, .int y9), (10, .int y10), (12, .int y12), (13, .int y13), (14, .int y14), (15, .int y15), (17, .int y17), (18, .int y18), (19, .int y19)]) hx hb dL_refers_403 hl (by decide) rfl (fun ls hl => ?_)
        refine lv_aload_n hx hb dL_refers_405 rfl (lv_at hl 1 rfl) ?_
        refine lv_iload hx hb dL_refers_406 (lv_at hl 13 rfl) ?_
        refine lv_iload hx hb dL_refers_408 (lv_at hl 12 rfl) ?_
        obtain ⟨q80, h79, h⟩ := Option.bind_eq_some_iff.mp h
        refine kciA (va_runV (As := [.int y19, .int y18]) (rest := []) ⟨hx, hb, hml, hown, hts⟩ (aX9_group l D cI cC cS lo aV c0_0 (X) y19 y18 h79) (cwV 2 hts gL_refers_X9_group rfl rfl rfl (by decide +kernel) ⟨Nat.le_of_ble_eq_true rfl, Nat.le_of_ble_eq_true rfl⟩) (kpreVA hP hK hN (Nat.le_trans hz hS.1)) rfl rfl hl.1 rfl (lv_room (Nat.le_of_ble_eq_true rfl)) dL_refers_410 ⟨Nat.le_of_ble_eq_true rfl, Nat.le_of_ble_eq_true rfl⟩) hS (fun H locs hP hS => ?_)
        refine lv_if_lt (tgt := 440) hx hb dL_refers_413 (by decide) (fun g => ?_) (fun g => ?_)
        · rw [if_pos g] at h
          refine lv_iload hx hb dL_refers_440 (lv_at hl 11 rfl) ?_
          exact j442 c0_0 y1 y5 y6 y9 y10 y12 y13 y14 y15 t0 y18 y19 y17 _ _ _ h hP hS (lv_sub hl [1, 2, 3, 4, 5, 6, 7, 8, 9, 10, 0, 12, 13] rfl)
        · rw [if_neg g] at h
          refine lv_aload_n hx hb dL_refers_416 rfl (lv_at hl 1 rfl) ?_
          refine lv_iload hx hb dL_refers_417 (lv_at hl 13 rfl) ?_
          refine lv_iload hx hb dL_refers_419 (lv_at hl 12 rfl) ?_
          obtain ⟨q82, h81, h⟩ := Option.bind_eq_some_iff.mp h
          refine kciA (va_runV (As := [.int y19, .int y18]) (rest := []) ⟨hx, hb, hml, hown, hts⟩ (aX9_group l D cI cC cS lo aV c0_0 (X) y19 y18 h81) (cwV 2 hts gL_refers_X9_group rfl rfl rfl (by decide +kernel) ⟨Nat.le_of_ble_eq_true rfl, Nat.le_of_ble_eq_true rfl⟩) (kpreVA hP hK hN (Nat.le_trans hz hS.1)) rfl rfl hl.1 rfl (lv_room (Nat.le_of_ble_eq_true rfl)) dL_refers_421 ⟨Nat.le_of_ble_eq_true rfl, Nat.le_of_ble_eq_true rfl⟩) hS (fun H locs hP hS => ?_)
          refine lv_aload_n hx hb dL_refers_424 rfl (lv_at hl 1 rfl) ?_
          refine lv_iload hx hb dL_refers_425 (lv_at hl 13 rfl) ?_
          refine lv_iload hx hb dL_refers_427 (lv_at hl 12 rfl) ?_
          refine lv_iconst (v := (1 : Int32)) hx hb dL_refers_429 (by decide) ?_
          refine lv_iadd hx hb dL_refers_430 ?_
          obtain ⟨q84, h83, h⟩ := Option.bind_eq_some_iff.mp h
          refine kciA (va_runV (As := [.int y19, .int (y18 + (1 : Int32))]) (rest := [.int q82]) ⟨hx, hb, hml, hown, hts⟩ (aX9_group l D cI cC cS lo aV c0_0 (X) y19 (y18 + (1 : Int32)) h83) (cwV 2 hts gL_refers_X9_group rfl rfl rfl (by decide +kernel) ⟨Nat.le_of_ble_eq_true rfl, Nat.le_of_ble_eq_true rfl⟩) (kpreVA hP hK hN (Nat.le_trans hz hS.1)) rfl rfl hl.1 rfl (lv_room (Nat.le_of_ble_eq_true rfl)) dL_refers_431 ⟨Nat.le_of_ble_eq_true rfl, Nat.le_of_ble_eq_true rfl⟩) hS (fun H locs hP hS => ?_)
          refine lv_iadd hx hb dL_refers_434 ?_
          refine lv_iconst (v := (1 : Int32)) hx hb dL_refers_435 (by decide) ?_
          refine lv_isub hx hb dL_refers_436 ?_
          refine lv_goto (tgt := 442) hx hb dL_refers_437 (by decide) ?_
          exact j442 c0_0 y1 y5 y6 y9 y10 y12 y13 y14 y15 t0 y18 y19 ((q82 + q84) - (1 : Int32)) _ _ _ h hP hS (lv_sub hl [1, 2, 3, 4, 5, 6, 7, 8, 9, 10, 0, 12, 13] rfl)
      have j364 : ∀ (c0_0 : Sg) (y1 : Int32) (y5 : Int32) (y6 : Int32) (y9 : Int32) (y10 : Int32) (y12 : Int32) (y13 : Int32) (y14 : Int32) (y16 : Int32) (y17 : Int32) (y18 : Int32) (y19 : Int32) (t0 : Int32) (t2 : Int32) (t3 : Int32) (H : Heap) (locs : List Loc) (ls : Array Slot), pL_refers_j364 (pL_refers_L322  nL322) c0_0 y1 y5 y6 y9 y10 y12 y13 y14 y16 y17 y18 y19 t0 t2 t3 = some q → (aW D cI cC cS lo aV c0_0 X) H → va_S (fun q => lo ≤ q) s.heap H locs → lv_has ls 21 [(0, .ref aV), (1, .int y1), (5, .int y5), (6, .int y6), (9, .int y9), (10, .int y10), (12, .int y12), (13, .int y13), (14, .int y14), (16, .int y16), (17, .int y17), (18, .int y18), (19, .int y19)] → W p l e ({ frames := 7, cells := 0, slots := 0, locals := 161 } : Room) s m ([.ref aV, .int i2, .int i3, .int i4] : List Value).toArray below meth c H locs 0 0 (MQ below (va_Qi (fun (r : Int32) (_ : Unit) => r = q.1) (fun _ t => (aW D cI cC cS lo aV q.2 X) t.heap) (fun q => lo ≤ q)) ([.ref aV, .int i2, .int i3, .int i4] : List Value).toArray s 0 0 (fun q => lo ≤ q)) (F0 m 364 ls [.int t3, .int t2, .ref aV, .int t0]) := by
        skip
        intro c0_0 y1 y5 y6 y9 y10 y12 y13 y14 y16 y17 y18 y19 t0 t2 t3 H locs ls h hP hS hl
        unfold pL_refers_j364 at h
        obtain ⟨q76, h75, h⟩ := Option.bind_eq_some_iff.mp h
        refine kciA (va_runV (As := [.int t2, .int t3]) (rest := [.int t0]) ⟨hx, hb, hml, hown, hts⟩ (aX9_group l D cI cC cS lo aV c0_0 (X) t2 t3 h75) (cwV 2 hts gL_refers_X9_group rfl rfl rfl (by decide +kernel) ⟨Nat.le_of_ble_eq_true rfl, Nat.le_of_ble_eq_true rfl⟩) (kpreVA hP hK hN (Nat.le_trans hz hS.1)) rfl rfl hl.1 rfl (lv_room (Nat.le_of_ble_eq_true rfl)) dL_refers_364 ⟨Nat.le_of_ble_eq_true rfl, Nat.le_of_ble_eq_true rfl⟩) hS (fun H locs hP hS => ?_)
        refine lv_iadd hx hb dL_refers_367 ?_
        refine lv_istore (lv' := [(15, .int (t0 + q76)), (0, .ref aV), (1, .int y1), (5, .int y5), (6, .int y6), (9, .int y9), (10, .int y10), (12, .int y12), (13, .int y13), (14, .int y14), (16, .int y16), (17, .int y17), (18, .int y18), (19, .int y19)]) hx hb dL_refers_368 hl (by decide) rfl (fun ls hl => ?_)
        refine lv_iload hx hb dL_refers_370 (lv_at hl 9 rfl) ?_
        refine lv_aload_n hx hb dL_refers_372 rfl (lv_at hl 1 rfl) ?_
        refine lv_iload hx hb dL_refers_373 (lv_at hl 13 rfl) ?_
        refine lv_iload hx hb dL_refers_375 (lv_at hl 12 rfl) ?_
        refine lv_iconst (v := (1 : Int32)) hx hb dL_refers_377 (by decide) ?_
        refine lv_iadd hx hb dL_refers_378 ?_
        obtain ⟨q78, h77, h⟩ := Option.bind_eq_some_iff.mp h
        refine kciA (va_runV (As := [.int y19, .int (y18 + (1 : Int32))]) (rest := [.int y14]) ⟨hx, hb, hml, hown, hts⟩ (aX9_group l D cI cC cS lo aV c0_0 (X) y19 (y18 + (1 : Int32)) h77) (cwV 2 hts gL_refers_X9_group rfl rfl rfl (by decide +kernel) ⟨Nat.le_of_ble_eq_true rfl, Nat.le_of_ble_eq_true rfl⟩) (kpreVA hP hK hN (Nat.le_trans hz hS.1)) rfl rfl hl.1 rfl (lv_room (Nat.le_of_ble_eq_true rfl)) dL_refers_379 ⟨Nat.le_of_ble_eq_true rfl, Nat.le_of_ble_eq_true rfl⟩) hS (fun H locs hP hS => ?_)
        refine lv_iadd hx hb dL_refers_382 ?_
        refine lv_istore (lv' := [(14, .int (y14 + q78)), (15, .int (t0 + q76)), (0, .ref aV), (1, .int y1), (5, .int y5), (6, .int y6), (9, .int y9), (10, .int y10), (12, .int y12), (13, .int y13), (16, .int y16), (17, .int y17), (18, .int y18), (19, .int y19)]) hx hb dL_refers_383 hl (by decide) rfl (fun ls hl => ?_)
        refine lv_iload hx hb dL_refers_385 (lv_at hl 10 rfl) ?_
        refine lv_if_ge (tgt := 401) hx hb dL_refers_387 (by decide) (fun g => ?_) (fun g => ?_)
        · rw [if_pos g] at h
          refine lv_iload hx hb dL_refers_401 (lv_at hl 10 rfl) ?_
          exact j403 c0_0 y1 y5 y6 y9 y10 y12 y13 (y14 + q78) (t0 + q76) y17 y18 y19 y16 _ _ _ h hP hS (lv_sub hl [2, 3, 4, 5, 6, 7, 8, 9, 0, 1, 11, 12, 13] rfl)
        · rw [if_neg g] at h
          refine lv_aload_n hx hb dL_refers_390 rfl (lv_at hl 2 rfl) ?_
          refine lv_iload hx hb dL_refers_391 (lv_at hl 13 rfl) ?_
          refine lv_iload hx hb dL_refers_393 (lv_at hl 12 rfl) ?_
          obtain ⟨q86, h85, h⟩ := Option.bind_eq_some_iff.mp h
          refine kciA (va_runV (As := [.int y19, .int y18]) (rest := []) ⟨hx, hb, hml, hown, hts⟩ (aX9_group l D cI cC cS lo aV c0_0 (X) y19 y18 h85) (cwV 2 hts gL_refers_X9_group rfl rfl rfl (by decide +kernel) ⟨Nat.le_of_ble_eq_true rfl, Nat.le_of_ble_eq_true rfl⟩) (kpreVA hP hK hN (Nat.le_trans hz hS.1)) rfl rfl hl.1 rfl (lv_room (Nat.le_of_ble_eq_true rfl)) dL_refers_395 ⟨Nat.le_of_ble_eq_true rfl, Nat.le_of_ble_eq_true rfl⟩) hS (fun H locs hP hS => ?_)
          refine lv_goto (tgt := 403) hx hb dL_refers_398 (by decide) ?_
          exact j403 c0_0 y1 y5 y6 y9 y10 y12 y13 (y14 + q78) (t0 + q76) y17 y18 y19 q86 _ _ _ h hP hS (lv_sub hl [2, 3, 4, 5, 6, 7, 8, 9, 0, 1, 11, 12, 13] rfl)
      have j341 : ∀ (c0_0 : Sg) (y1 : Int32) (y5 : Int32) (y6 : Int32) (y9 : Int32) (y10 : Int32) (y12 : Int32) (y13 : Int32) (y14 : Int32) (y15 : Int32) (y16 : Int32) (y17 : Int32) (y18 : Int32) (y19 : Int32) (t1 : Int32) (t2 : Int32) (H : Heap) (locs : List Loc) (ls : Array Slot), pL_refers_j341 (pL_refers_L322  nL322) c0_0 y1 y5 y6 y9 y10 y12 y13 y14 y15 y16 y17 y18 y19 t1 t2 = some q → (aW D cI cC cS lo aV c0_0 X) H → va_S (fun q => lo ≤ q) s.heap H locs → lv_has ls 21 [(0, .ref aV), (1, .int y1), (5, .int y5), (6, .int y6), (9, .int y9), (10, .int y10), (12, .int y12), (13, .int y13), (14, .int y14), (15, .int y15), (16, .int y16), (17, .int y17), (18, .int y18), (19, .int y19)] → W p l e ({ frames := 7, cells := 0, slots := 0, locals := 161 } : Room) s m ([.ref aV, .int i2, .int i3, .int i4] : List Value).toArray below meth c H locs 0 0 (MQ below (va_Qi (fun (r : Int32) (_ : Unit) => r = q.1) (fun _ t => (aW D cI cC cS lo aV q.2 X) t.heap) (fun q => lo ≤ q)) ([.ref aV, .int i2, .int i3, .int i4] : List Value).toArray s 0 0 (fun q => lo ≤ q)) (F0 m 341 ls [.int t2, .int t1, .ref aV]) := by
        skip
        intro c0_0 y1 y5 y6 y9 y10 y12 y13 y14 y15 y16 y17 y18 y19 t1 t2 H locs ls h hP hS hl
        unfold pL_refers_j341 at h
        obtain ⟨q74, h73, h⟩ := Option.bind_eq_some_iff.mp h
        refine kciA (va_runV (As := [.int t1, .int t2]) (rest := []) ⟨hx, hb, hml, hown, hts⟩ (aX9_group l D cI cC cS lo aV c0_0 (X) t1 t2 h73) (cwV 2 hts gL_refers_X9_group rfl rfl rfl (by decide +kernel) ⟨Nat.le_of_ble_eq_true rfl, Nat.le_of_ble_eq_true rfl⟩) (kpreVA hP hK hN (Nat.le_trans hz hS.1)) rfl rfl hl.1 rfl (lv_room (Nat.le_of_ble_eq_true rfl)) dL_refers_341 ⟨Nat.le_of_ble_eq_true rfl, Nat.le_of_ble_eq_true rfl⟩) hS (fun H locs hP hS => ?_)
        refine lv_if_le (tgt := 444) hx hb dL_refers_344 (by decide) (fun g => ?_) (fun g => ?_)
        · rw [if_pos g] at h
          exact j444 c0_0 y1 y5 y6 y9 y10 y12 y13 y14 y15 y16 y17 y18 y19 _ _ _ h hP hS (lv_sub hl [0, 1, 2, 3, 4, 5, 6, 7, 8, 9, 10, 11, 12, 13] rfl)
        · rw [if_neg g] at h
          refine lv_iinc (v := (y13 + (1 : Int32))) (lv' := [(13, .int (y13 + (1 : Int32))), (0, .ref aV), (1, .int y1), (5, .int y5), (6, .int y6), (9, .int y9), (10, .int y10), (12, .int y12), (14, .int y14), (15, .int y15), (16, .int y16), (17, .int y17), (18, .int y18), (19, .int y19)]) hx hb dL_refers_347 hl (k := 7) rfl rfl (by decide) rfl (fun ls hl => ?_)
          refine lv_iload hx hb dL_refers_350 (lv_at hl 9 rfl) ?_
          refine lv_aload_n hx hb dL_refers_352 rfl (lv_at hl 1 rfl) ?_
          refine lv_iload hx hb dL_refers_353 (lv_at hl 13 rfl) ?_
          refine lv_iload_n hx hb dL_refers_355 rfl (lv_at hl 2 rfl) ?_
          refine lv_if_ne (tgt := 363) hx hb dL_refers_356 (by decide) (fun g => ?_) (fun g => ?_)
          · rw [if_neg g] at h
            refine lv_iconst (v := (4 : Int32)) hx hb dL_refers_363 (by decide) ?_
            exact j364 c0_0 y1 y5 y6 y9 y10 y12 (y13 + (1 : Int32)) y14 y16 y17 y18 y19 y15 y19 (4 : Int32) _ _ _ h hP hS (lv_sub hl [1, 2, 3, 4, 5, 6, 7, 0, 8, 10, 11, 12, 13] rfl)
          · rw [if_pos g] at h
            refine lv_iconst (v := (2 : Int32)) hx hb dL_refers_359 (by decide) ?_
            refine lv_goto (tgt := 364) hx hb dL_refers_360 (by decide) ?_
            exact j364 c0_0 y1 y5 y6 y9 y10 y12 (y13 + (1 : Int32)) y14 y16 y17 y18 y19 y15 y19 (2 : Int32) _ _ _ h hP hS (lv_sub hl [1, 2, 3, 4, 5, 6, 7, 0, 8, 10, 11, 12, 13] rfl)
      intro c0_0 y1 y5 y6 y9 y10 y12 y13 y14 y15 y16 y17 y18 y19 H locs ls h hP hS hl
      have h : pL_refers_bL322 (pL_refers_L322  nL322) c0_0 y1 y5 y6 y9 y10 y12 y13 y14 y15 y16 y17 y18 y19 = some q := h
      unfold pL_refers_bL322 at h
      refine lv_iload hx hb dL_refers_322 (lv_at hl 13 rfl) ?_
      refine lv_iload hx hb dL_refers_324 (lv_at hl 6 rfl) ?_
      refine lv_icmp_gt (tgt := 450) hx hb dL_refers_326 (by decide) (fun g => ?_) (fun g => ?_)
      · rw [if_pos g] at h
        refine lv_aload_n hx hb dL_refers_450 rfl (lv_at hl 0 rfl) ?_
        refine lv_iload_n hx hb dL_refers_451 rfl (lv_at hl 1 rfl) ?_
        refine lv_iconst (v := (0 : Int32)) hx hb dL_refers_452 (by decide) ?_
        obtain ⟨q46, h45, h⟩ := Option.bind_eq_some_iff.mp h
        refine kciA (va_runV (As := [.int y1, .int (0 : Int32)]) (rest := []) ⟨hx, hb, hml, hown, hts⟩ (aX9_refer l D cI cC cS lo aV c0_0 (X) y1 (0 : Int32) h45) (cwV 2 hts gL_refers_X9_refer rfl rfl rfl (by decide +kernel) ⟨Nat.le_of_ble_eq_true rfl, Nat.le_of_ble_eq_true rfl⟩) (kpreVA hP hK hN (Nat.le_trans hz hS.1)) rfl rfl hl.1 rfl (lv_room (Nat.le_of_ble_eq_true rfl)) dL_refers_453 ⟨Nat.le_of_ble_eq_true rfl, Nat.le_of_ble_eq_true rfl⟩) hS (fun H locs hP hS => ?_)
        refine lv_iload hx hb dL_refers_456 (lv_at hl 2 rfl) ?_
        refine lv_icmp_ne (tgt := 547) hx hb dL_refers_458 (by decide) (fun g => ?_) (fun g => ?_)
        · rw [if_neg g] at h
          exact j547 c0_0 y1 y5 y9 y10 _ _ _ h hP hS (lv_sub hl [0, 1, 2, 4, 5] rfl)
        · rw [if_pos g] at h
          refine lv_aload_n hx hb dL_refers_461 rfl (lv_at hl 0 rfl) ?_
          refine lv_iload_n hx hb dL_refers_462 rfl (lv_at hl 1 rfl) ?_
          refine lv_iconst (v := (1 : Int32)) hx hb dL_refers_463 (by decide) ?_
          obtain ⟨q62, h61, h⟩ := Option.bind_eq_some_iff.mp h
          refine kciA (va_runV (As := [.int y1, .int (1 : Int32)]) (rest := []) ⟨hx, hb, hml, hown, hts⟩ (aX9_refer l D cI cC cS lo aV c0_0 (X) y1 (1 : Int32) h61) (cwV 2 hts gL_refers_X9_refer rfl rfl rfl (by decide +kernel) ⟨Nat.le_of_ble_eq_true rfl, Nat.le_of_ble_eq_true rfl⟩) (kpreVA hP hK hN (Nat.le_trans hz hS.1)) rfl rfl hl.1 rfl (lv_room (Nat.le_of_ble_eq_true rfl)) dL_refers_464 ⟨Nat.le_of_ble_eq_true rfl, Nat.le_of_ble_eq_true rfl⟩) hS (fun H locs hP hS => ?_)
          refine lv_iload hx hb dL_refers_467 (lv_at hl 3 rfl) ?_
          refine lv_icmp_ne (tgt := 547) hx hb dL_refers_469 (by decide) (fun g => ?_) (fun g => ?_)
          · rw [if_neg g] at h
            exact j547 c0_0 y1 y5 y9 y10 _ _ _ h hP hS (lv_sub hl [0, 1, 2, 4, 5] rfl)
          · rw [if_pos g] at h
            refine lv_aload_n hx hb dL_refers_472 rfl (lv_at hl 0 rfl) ?_
            refine lv_iload_n hx hb dL_refers_473 rfl (lv_at hl 1 rfl) ?_
            refine lv_iconst (v := (2 : Int32)) hx hb dL_refers_474 (by decide) ?_
            obtain ⟨q64, h63, h⟩ := Option.bind_eq_some_iff.mp h
            refine kciA (va_runV (As := [.int y1, .int (2 : Int32)]) (rest := []) ⟨hx, hb, hml, hown, hts⟩ (aX9_refer l D cI cC cS lo aV c0_0 (X) y1 (2 : Int32) h63) (cwV 2 hts gL_refers_X9_refer rfl rfl rfl (by decide +kernel) ⟨Nat.le_of_ble_eq_true rfl, Nat.le_of_ble_eq_true rfl⟩) (kpreVA hP hK hN (Nat.le_trans hz hS.1)) rfl rfl hl.1 rfl (lv_room (Nat.le_of_ble_eq_true rfl)) dL_refers_475 ⟨Nat.le_of_ble_eq_true rfl, Nat.le_of_ble_eq_true rfl⟩) hS (fun H locs hP hS => ?_)
            refine lv_iload hx hb dL_refers_478 (lv_at hl 10 rfl) ?_
            refine lv_icmp_ne (tgt := 547) hx hb dL_refers_480 (by decide) (fun g => ?_) (fun g => ?_)
            · rw [if_neg g] at h
              exact j547 c0_0 y1 y5 y9 y10 _ _ _ h hP hS (lv_sub hl [0, 1, 2, 4, 5] rfl)
            · rw [if_pos g] at h
              refine lv_aload_n hx hb dL_refers_483 rfl (lv_at hl 0 rfl) ?_
              refine lv_iload_n hx hb dL_refers_484 rfl (lv_at hl 1 rfl) ?_
              refine lv_iconst (v := (3 : Int32)) hx hb dL_refers_485 (by decide) ?_
              obtain ⟨q66, h65, h⟩ := Option.bind_eq_some_iff.mp h
              refine kciA (va_runV (As := [.int y1, .int (3 : Int32)]) (rest := []) ⟨hx, hb, hml, hown, hts⟩ (aX9_refer l D cI cC cS lo aV c0_0 (X) y1 (3 : Int32) h65) (cwV 2 hts gL_refers_X9_refer rfl rfl rfl (by decide +kernel) ⟨Nat.le_of_ble_eq_true rfl, Nat.le_of_ble_eq_true rfl⟩) (kpreVA hP hK hN (Nat.le_trans hz hS.1)) rfl rfl hl.1 rfl (lv_room (Nat.le_of_ble_eq_true rfl)) dL_refers_486 ⟨Nat.le_of_ble_eq_true rfl, Nat.le_of_ble_eq_true rfl⟩) hS (fun H locs hP hS => ?_)
              refine lv_iload hx hb dL_refers_489 (lv_at hl 11 rfl) ?_
              refine lv_icmp_ne (tgt := 547) hx hb dL_refers_491 (by decide) (fun g => ?_) (fun g => ?_)
              · rw [if_neg g] at h
                exact j547 c0_0 y1 y5 y9 y10 _ _ _ h hP hS (lv_sub hl [0, 1, 2, 4, 5] rfl)
              · rw [if_pos g] at h
                refine lv_aload_n hx hb dL_refers_494 rfl (lv_at hl 0 rfl) ?_
                refine lv_iload_n hx hb dL_refers_495 rfl (lv_at hl 1 rfl) ?_
                refine lv_iconst (v := (4 : Int32)) hx hb dL_refers_496 (by decide) ?_
                obtain ⟨q68, h67, h⟩ := Option.bind_eq_some_iff.mp h
                refine kciA (va_runV (As := [.int y1, .int (4 : Int32)]) (rest := []) ⟨hx, hb, hml, hown, hts⟩ (aX9_refer l D cI cC cS lo aV c0_0 (X) y1 (4 : Int32) h67) (cwV 2 hts gL_refers_X9_refer rfl rfl rfl (by decide +kernel) ⟨Nat.le_of_ble_eq_true rfl, Nat.le_of_ble_eq_true rfl⟩) (kpreVA hP hK hN (Nat.le_trans hz hS.1)) rfl rfl hl.1 rfl (lv_room (Nat.le_of_ble_eq_true rfl)) dL_refers_497 ⟨Nat.le_of_ble_eq_true rfl, Nat.le_of_ble_eq_true rfl⟩) hS (fun H locs hP hS => ?_)
                refine lv_iload hx hb dL_refers_500 (lv_at hl 7 rfl) ?_
                refine lv_icmp_ne (tgt := 547) hx hb dL_refers_502 (by decide) (fun g => ?_) (fun g => ?_)
                · rw [if_neg g] at h
                  exact j547 c0_0 y1 y5 y9 y10 _ _ _ h hP hS (lv_sub hl [0, 1, 2, 4, 5] rfl)
                · rw [if_pos g] at h
                  refine lv_aload_n hx hb dL_refers_505 rfl (lv_at hl 0 rfl) ?_
                  refine lv_iload_n hx hb dL_refers_506 rfl (lv_at hl 1 rfl) ?_
                  refine lv_iconst (v := (5 : Int32)) hx hb dL_refers_507 (by decide) ?_
                  obtain ⟨q70, h69, h⟩ := Option.bind_eq_some_iff.mp h
                  refine kciA (va_runV (As := [.int y1, .int (5 : Int32)]) (rest := []) ⟨hx, hb, hml, hown, hts⟩ (aX9_refer l D cI cC cS lo aV c0_0 (X) y1 (5 : Int32) h69) (cwV 2 hts gL_refers_X9_refer rfl rfl rfl (by decide +kernel) ⟨Nat.le_of_ble_eq_true rfl, Nat.le_of_ble_eq_true rfl⟩) (kpreVA hP hK hN (Nat.le_trans hz hS.1)) rfl rfl hl.1 rfl (lv_room (Nat.le_of_ble_eq_true rfl)) dL_refers_508 ⟨Nat.le_of_ble_eq_true rfl, Nat.le_of_ble_eq_true rfl⟩) hS (fun H locs hP hS => ?_)
                  refine lv_iload hx hb dL_refers_511 (lv_at hl 8 rfl) ?_
                  refine lv_icmp_ne (tgt := 547) hx hb dL_refers_513 (by decide) (fun g => ?_) (fun g => ?_)
                  · rw [if_neg g] at h
                    exact j547 c0_0 y1 y5 y9 y10 _ _ _ h hP hS (lv_sub hl [0, 1, 2, 4, 5] rfl)
                  · rw [if_pos g] at h
                    refine lv_aload_n hx hb dL_refers_516 rfl (lv_at hl 0 rfl) ?_
                    refine lv_iload_n hx hb dL_refers_517 rfl (lv_at hl 1 rfl) ?_
                    refine lv_bipush (v := (6 : Int32)) hx hb dL_refers_518 (by decide) ?_
                    obtain ⟨q72, h71, h⟩ := Option.bind_eq_some_iff.mp h
                    refine kciA (va_runV (As := [.int y1, .int (6 : Int32)]) (rest := []) ⟨hx, hb, hml, hown, hts⟩ (aX9_refer l D cI cC cS lo aV c0_0 (X) y1 (6 : Int32) h71) (cwV 2 hts gL_refers_X9_refer rfl rfl rfl (by decide +kernel) ⟨Nat.le_of_ble_eq_true rfl, Nat.le_of_ble_eq_true rfl⟩) (kpreVA hP hK hN (Nat.le_trans hz hS.1)) rfl rfl hl.1 rfl (lv_room (Nat.le_of_ble_eq_true rfl)) dL_refers_520 ⟨Nat.le_of_ble_eq_true rfl, Nat.le_of_ble_eq_true rfl⟩) hS (fun H locs hP hS => ?_)
                    refine lv_iload hx hb dL_refers_523 (lv_at hl 9 rfl) ?_
                    refine lv_iload hx hb dL_refers_525 (lv_at hl 3 rfl) ?_
                    refine lv_iload hx hb dL_refers_527 (lv_at hl 2 rfl) ?_
                    refine lv_isub hx hb dL_refers_529 ?_
                    refine lv_iconst (v := (1 : Int32)) hx hb dL_refers_530 (by decide) ?_
                    refine lv_iadd hx hb dL_refers_531 ?_
                    refine lv_icmp_ne (tgt := 539) hx hb dL_refers_532 (by decide) (fun g => ?_) (fun g => ?_)
                    · rw [if_neg g] at h
                      refine lv_iconst (v := (0 : Int32)) hx hb dL_refers_539 (by decide) ?_
                      exact j540 c0_0 y1 y5 y9 y10 q72 (0 : Int32) _ _ _ h hP hS (lv_sub hl [0, 1, 2, 4, 5] rfl)
                    · rw [if_pos g] at h
                      refine lv_iconst (v := (1 : Int32)) hx hb dL_refers_535 (by decide) ?_
                      refine lv_goto (tgt := 540) hx hb dL_refers_536 (by decide) ?_
                      exact j540 c0_0 y1 y5 y9 y10 q72 (1 : Int32) _ _ _ h hP hS (lv_sub hl [0, 1, 2, 4, 5] rfl)
      · rw [if_neg g] at h
        refine lv_aload_n hx hb dL_refers_329 rfl (lv_at hl 0 rfl) ?_
        refine lv_iload hx hb dL_refers_330 (lv_at hl 13 rfl) ?_
        refine lv_iload_n hx hb dL_refers_332 rfl (lv_at hl 1 rfl) ?_
        refine lv_if_ne (tgt := 340) hx hb dL_refers_333 (by decide) (fun g => ?_) (fun g => ?_)
        · rw [if_neg g] at h
          refine lv_iconst (v := (4 : Int32)) hx hb dL_refers_340 (by decide) ?_
          exact j341 c0_0 y1 y5 y6 y9 y10 y12 y13 y14 y15 y16 y17 y18 y19 y19 (4 : Int32) _ _ _ h hP hS (lv_sub hl [0, 1, 2, 3, 4, 5, 6, 7, 8, 9, 10, 11, 12, 13] rfl)
        · rw [if_pos g] at h
          refine lv_iconst (v := (2 : Int32)) hx hb dL_refers_336 (by decide) ?_
          refine lv_goto (tgt := 341) hx hb dL_refers_337 (by decide) ?_
          exact j341 c0_0 y1 y5 y6 y9 y10 y12 y13 y14 y15 y16 y17 y18 y19 y19 (2 : Int32) _ _ _ h hP hS (lv_sub hl [0, 1, 2, 3, 4, 5, 6, 7, 8, 9, 10, 11, 12, 13] rfl)
  have j316 : ∀ (c0_0 : Sg) (y1 : Int32) (y5 : Int32) (y6 : Int32) (y9 : Int32) (y10 : Int32) (y11 : Int32) (y12 : Int32) (y13 : Int32) (y14 : Int32) (y15 : Int32) (y16 : Int32) (y17 : Int32) (t0 : Int32) (H : Heap) (locs : List Loc) (ls : Array Slot), pL_refers_j316  c0_0 y1 y5 y6 y9 y10 y11 y12 y13 y14 y15 y16 y17 t0 = some q → (aW D cI cC cS lo aV c0_0 X) H → va_S (fun q => lo ≤ q) s.heap H locs → lv_has ls 21 [(0, .ref aV), (1, .int y1), (5, .int y5), (6, .int y6), (9, .int y9), (10, .int y10), (11, .int y11), (12, .int y12), (13, .int y13), (14, .int y14), (15, .int y15), (16, .int y16), (17, .int y17)] → W p l e ({ frames := 7, cells := 0, slots := 0, locals := 161 } : Room) s m ([.ref aV, .int i2, .int i3, .int i4] : List Value).toArray below meth c H locs 0 0 (MQ below (va_Qi (fun (r : Int32) (_ : Unit) => r = q.1) (fun _ t => (aW D cI cC cS lo aV q.2 X) t.heap) (fun q => lo ≤ q)) ([.ref aV, .int i2, .int i3, .int i4] : List Value).toArray s 0 0 (fun q => lo ≤ q)) (F0 m 316 ls [.int t0]) := by
    clear h hP hS hl
    intro c0_0 y1 y5 y6 y9 y10 y11 y12 y13 y14 y15 y16 y17 t0 H locs ls h hP hS hl
    unfold pL_refers_j316 at h
    refine lv_istore (lv' := [(18, .int t0), (0, .ref aV), (1, .int y1), (5, .int y5), (6, .int y6), (9, .int y9), (10, .int y10), (11, .int y11), (12, .int y12), (13, .int y13), (14, .int y14), (15, .int y15), (16, .int y16), (17, .int y17)]) hx hb dL_refers_316 hl (by decide) rfl (fun ls hl => ?_)
    refine lv_iload hx hb dL_refers_318 (lv_at hl 7 rfl) ?_
    refine lv_istore (lv' := [(19, .int y11), (18, .int t0), (0, .ref aV), (1, .int y1), (5, .int y5), (6, .int y6), (9, .int y9), (10, .int y10), (11, .int y11), (12, .int y12), (13, .int y13), (14, .int y14), (15, .int y15), (16, .int y16), (17, .int y17)]) hx hb dL_refers_320 hl (by decide) rfl (fun ls hl => ?_)
    exact L322 4000 c0_0 y1 y5 y6 y9 y10 y12 y13 y14 y15 y16 y17 t0 y11 _ _ _ h hP hS (lv_sub hl [2, 3, 4, 5, 6, 7, 9, 10, 11, 12, 13, 14, 1, 0] rfl)
  have j235 : ∀ (c0_0 : Sg) (y1 : Int32) (y5 : Int32) (y6 : Int32) (y9 : Int32) (t0 : Int32) (H : Heap) (locs : List Loc) (ls : Array Slot), pL_refers_j235  c0_0 y1 y5 y6 y9 t0 = some q → (aW D cI cC cS lo aV c0_0 X) H → va_S (fun q => lo ≤ q) s.heap H locs → lv_has ls 21 [(0, .ref aV), (1, .int y1), (5, .int y5), (6, .int y6), (9, .int y9)] → W p l e ({ frames := 7, cells := 0, slots := 0, locals := 161 } : Room) s m ([.ref aV, .int i2, .int i3, .int i4] : List Value).toArray below meth c H locs 0 0 (MQ below (va_Qi (fun (r : Int32) (_ : Unit) => r = q.1) (fun _ t => (aW D cI cC cS lo aV q.2 X) t.heap) (fun q => lo ≤ q)) ([.ref aV, .int i2, .int i3, .int i4] : List Value).toArray s 0 0 (fun q => lo ≤ q)) (F0 m 235 ls [.int t0]) := by
    clear h hP hS hl
    intro c0_0 y1 y5 y6 y9 t0 H locs ls h hP hS hl
    unfold pL_refers_j235 at h
    refine lv_istore (lv' := [(10, .int t0), (0, .ref aV), (1, .int y1), (5, .int y5), (6, .int y6), (9, .int y9)]) hx hb dL_refers_235 hl (by decide) rfl (fun ls hl => ?_)
    refine lv_aload_n hx hb dL_refers_237 rfl (lv_at hl 1 rfl) ?_
    refine lv_aload_n hx hb dL_refers_238 rfl (lv_at hl 1 rfl) ?_
    refine lv_iload_n hx hb dL_refers_239 rfl (lv_at hl 2 rfl) ?_
    refine lv_iload hx hb dL_refers_240 (lv_at hl 4 rfl) ?_
    refine lv_iconst (v := (0 : Int32)) hx hb dL_refers_242 (by decide) ?_
    obtain ⟨q32, h31, h⟩ := Option.bind_eq_some_iff.mp h
    refine kciA (va_runV (As := [.int y1, .int y6, .int (0 : Int32)]) (rest := [.ref aV]) ⟨hx, hb, hml, hown, hts⟩ (aX9_verse l D cI cC cS lo aV c0_0 (X) y1 y6 (0 : Int32) h31) (cwV 3 hts gL_refers_X9_verse rfl rfl rfl (by decide +kernel) ⟨Nat.le_of_ble_eq_true rfl, Nat.le_of_ble_eq_true rfl⟩) (kpreVA hP hK hN (Nat.le_trans hz hS.1)) rfl rfl hl.1 rfl (lv_room (Nat.le_of_ble_eq_true rfl)) dL_refers_243 ⟨Nat.le_of_ble_eq_true rfl, Nat.le_of_ble_eq_true rfl⟩) hS (fun H locs hP hS => ?_)
    obtain ⟨q34, h33, h⟩ := Option.bind_eq_some_iff.mp h
    refine kciA (va_runS (As := [.ref aV, .int q32]) (rest := []) ⟨hx, hb, hml, hown, hts⟩ (kL_digits l D cI cC cS lo aV c0_0 (X) q32 h33) (cwS 2 hts gL_refers_L_digits rfl rfl rfl (by decide +kernel) ⟨Nat.le_of_ble_eq_true rfl, Nat.le_of_ble_eq_true rfl⟩) (kpreA hP hK hN (Nat.le_trans hz hS.1)) rfl rfl hl.1 rfl (lv_room (Nat.le_of_ble_eq_true rfl)) dL_refers_246 ⟨Nat.le_of_ble_eq_true rfl, Nat.le_of_ble_eq_true rfl⟩) hS (fun H locs hP hS => ?_)
    refine lv_pop hx hb dL_refers_249 rfl ?_
    refine lv_aload_n hx hb dL_refers_250 rfl (lv_at hl 1 rfl) ?_
    refine lv_bipush (v := (58 : Int32)) hx hb dL_refers_251 (by decide) ?_
    obtain ⟨q36, h35, h⟩ := Option.bind_eq_some_iff.mp h
    refine kciA (va_runV (As := [.int (58 : Int32)]) (rest := []) ⟨hx, hb, hml, hown, hts⟩ (aX9_type l D cI cC cS lo aV q34.2 (X) (58 : Int32) h35) (cwV 1 hts gL_refers_X9_type rfl rfl rfl (by decide +kernel) ⟨Nat.le_of_ble_eq_true rfl, Nat.le_of_ble_eq_true rfl⟩) (kpreVA hP hK hN (Nat.le_trans hz hS.1)) rfl rfl hl.1 rfl (lv_room (Nat.le_of_ble_eq_true rfl)) dL_refers_253 ⟨Nat.le_of_ble_eq_true rfl, Nat.le_of_ble_eq_true rfl⟩) hS (fun H locs hP hS => ?_)
    refine lv_pop hx hb dL_refers_256 rfl ?_
    refine lv_aload_n hx hb dL_refers_257 rfl (lv_at hl 1 rfl) ?_
    refine lv_aload_n hx hb dL_refers_258 rfl (lv_at hl 1 rfl) ?_
    refine lv_iload_n hx hb dL_refers_259 rfl (lv_at hl 2 rfl) ?_
    refine lv_iload hx hb dL_refers_260 (lv_at hl 4 rfl) ?_
    refine lv_iconst (v := (1 : Int32)) hx hb dL_refers_262 (by decide) ?_
    obtain ⟨q38, h37, h⟩ := Option.bind_eq_some_iff.mp h
    refine kciA (va_runV (As := [.int y1, .int y6, .int (1 : Int32)]) (rest := [.ref aV]) ⟨hx, hb, hml, hown, hts⟩ (aX9_verse l D cI cC cS lo aV q36.2 (X) y1 y6 (1 : Int32) h37) (cwV 3 hts gL_refers_X9_verse rfl rfl rfl (by decide +kernel) ⟨Nat.le_of_ble_eq_true rfl, Nat.le_of_ble_eq_true rfl⟩) (kpreVA hP hK hN (Nat.le_trans hz hS.1)) rfl rfl hl.1 rfl (lv_room (Nat.le_of_ble_eq_true rfl)) dL_refers_263 ⟨Nat.le_of_ble_eq_true rfl, Nat.le_of_ble_eq_true rfl⟩) hS (fun H locs hP hS => ?_)
    obtain ⟨q40, h39, h⟩ := Option.bind_eq_some_iff.mp h
    refine kciA (va_runS (As := [.ref aV, .int q38]) (rest := []) ⟨hx, hb, hml, hown, hts⟩ (kL_digits l D cI cC cS lo aV q36.2 (X) q38 h39) (cwS 2 hts gL_refers_L_digits rfl rfl rfl (by decide +kernel) ⟨Nat.le_of_ble_eq_true rfl, Nat.le_of_ble_eq_true rfl⟩) (kpreA hP hK hN (Nat.le_trans hz hS.1)) rfl rfl hl.1 rfl (lv_room (Nat.le_of_ble_eq_true rfl)) dL_refers_266 ⟨Nat.le_of_ble_eq_true rfl, Nat.le_of_ble_eq_true rfl⟩) hS (fun H locs hP hS => ?_)
    refine lv_pop hx hb dL_refers_269 rfl ?_
    refine lv_aload_n hx hb dL_refers_270 rfl (lv_at hl 1 rfl) ?_
    refine lv_iload_n hx hb dL_refers_271 rfl (lv_at hl 2 rfl) ?_
    refine lv_iload hx hb dL_refers_272 (lv_at hl 3 rfl) ?_
    refine lv_iconst (v := (0 : Int32)) hx hb dL_refers_274 (by decide) ?_
    obtain ⟨q42, h41, h⟩ := Option.bind_eq_some_iff.mp h
    refine kciA (va_runV (As := [.int y1, .int y5, .int (0 : Int32)]) (rest := []) ⟨hx, hb, hml, hown, hts⟩ (aX9_beside l D cI cC cS lo aV q40.2 (X) y1 y5 (0 : Int32) h41) (cwV 3 hts gL_refers_X9_beside rfl rfl rfl (by decide +kernel) ⟨Nat.le_of_ble_eq_true rfl, Nat.le_of_ble_eq_true rfl⟩) (kpreVA hP hK hN (Nat.le_trans hz hS.1)) rfl rfl hl.1 rfl (lv_room (Nat.le_of_ble_eq_true rfl)) dL_refers_275 ⟨Nat.le_of_ble_eq_true rfl, Nat.le_of_ble_eq_true rfl⟩) hS (fun H locs hP hS => ?_)
    refine lv_istore (lv' := [(11, .int q42), (10, .int t0), (0, .ref aV), (1, .int y1), (5, .int y5), (6, .int y6), (9, .int y9)]) hx hb dL_refers_278 hl (by decide) rfl (fun ls hl => ?_)
    refine lv_aload_n hx hb dL_refers_280 rfl (lv_at hl 2 rfl) ?_
    refine lv_iload_n hx hb dL_refers_281 rfl (lv_at hl 3 rfl) ?_
    refine lv_iload hx hb dL_refers_282 (lv_at hl 5 rfl) ?_
    refine lv_iconst (v := (0 : Int32)) hx hb dL_refers_284 (by decide) ?_
    obtain ⟨q44, h43, h⟩ := Option.bind_eq_some_iff.mp h
    refine kciA (va_runV (As := [.int y1, .int y6, .int (0 : Int32)]) (rest := []) ⟨hx, hb, hml, hown, hts⟩ (aX9_beside l D cI cC cS lo aV q40.2 (X) y1 y6 (0 : Int32) h43) (cwV 3 hts gL_refers_X9_beside rfl rfl rfl (by decide +kernel) ⟨Nat.le_of_ble_eq_true rfl, Nat.le_of_ble_eq_true rfl⟩) (kpreVA hP hK hN (Nat.le_trans hz hS.1)) rfl rfl hl.1 rfl (lv_room (Nat.le_of_ble_eq_true rfl)) dL_refers_285 ⟨Nat.le_of_ble_eq_true rfl, Nat.le_of_ble_eq_true rfl⟩) hS (fun H locs hP hS => ?_)
    refine lv_istore (lv' := [(12, .int q44), (11, .int q42), (10, .int t0), (0, .ref aV), (1, .int y1), (5, .int y5), (6, .int y6), (9, .int y9)]) hx hb dL_refers_288 hl (by decide) rfl (fun ls hl => ?_)
    refine lv_iconst (v := (0 : Int32)) hx hb dL_refers_290 (by decide) ?_
    refine lv_istore (lv' := [(13, .int (0 : Int32)), (12, .int q44), (11, .int q42), (10, .int t0), (0, .ref aV), (1, .int y1), (5, .int y5), (6, .int y6), (9, .int y9)]) hx hb dL_refers_291 hl (by decide) rfl (fun ls hl => ?_)
    refine lv_iconst (v := (0 : Int32)) hx hb dL_refers_293 (by decide) ?_
    refine lv_istore (lv' := [(14, .int (0 : Int32)), (13, .int (0 : Int32)), (12, .int q44), (11, .int q42), (10, .int t0), (0, .ref aV), (1, .int y1), (5, .int y5), (6, .int y6), (9, .int y9)]) hx hb dL_refers_294 hl (by decide) rfl (fun ls hl => ?_)
    refine lv_iconst (v := (0 : Int32)) hx hb dL_refers_296 (by decide) ?_
    refine lv_istore (lv' := [(15, .int (0 : Int32)), (14, .int (0 : Int32)), (13, .int (0 : Int32)), (12, .int q44), (11, .int q42), (10, .int t0), (0, .ref aV), (1, .int y1), (5, .int y5), (6, .int y6), (9, .int y9)]) hx hb dL_refers_297 hl (by decide) rfl (fun ls hl => ?_)
    refine lv_bipush (v := (-5 : Int32)) hx hb dL_refers_299 (by decide) ?_
    refine lv_istore (lv' := [(16, .int (-5 : Int32)), (15, .int (0 : Int32)), (14, .int (0 : Int32)), (13, .int (0 : Int32)), (12, .int q44), (11, .int q42), (10, .int t0), (0, .ref aV), (1, .int y1), (5, .int y5), (6, .int y6), (9, .int y9)]) hx hb dL_refers_301 hl (by decide) rfl (fun ls hl => ?_)
    refine lv_bipush (v := (-5 : Int32)) hx hb dL_refers_303 (by decide) ?_
    refine lv_istore (lv' := [(17, .int (-5 : Int32)), (16, .int (-5 : Int32)), (15, .int (0 : Int32)), (14, .int (0 : Int32)), (13, .int (0 : Int32)), (12, .int q44), (11, .int q42), (10, .int t0), (0, .ref aV), (1, .int y1), (5, .int y5), (6, .int y6), (9, .int y9)]) hx hb dL_refers_305 hl (by decide) rfl (fun ls hl => ?_)
    refine lv_iload_n hx hb dL_refers_307 rfl (lv_at hl 9 rfl) ?_
    refine lv_if_ne (tgt := 315) hx hb dL_refers_308 (by decide) (fun g => ?_) (fun g => ?_)
    · rw [if_neg g] at h
      refine lv_iconst (v := (1 : Int32)) hx hb dL_refers_315 (by decide) ?_
      exact j316 q40.2 y1 y5 y6 y9 t0 q42 q44 (0 : Int32) (0 : Int32) (0 : Int32) (-5 : Int32) (-5 : Int32) (1 : Int32) _ _ _ h hP hS (lv_sub hl [8, 9, 10, 11, 12, 7, 6, 5, 4, 3, 2, 1, 0] rfl)
    · rw [if_pos g] at h
      refine lv_iconst (v := (3 : Int32)) hx hb dL_refers_311 (by decide) ?_
      refine lv_goto (tgt := 316) hx hb dL_refers_312 (by decide) ?_
      exact j316 q40.2 y1 y5 y6 y9 t0 q42 q44 (0 : Int32) (0 : Int32) (0 : Int32) (-5 : Int32) (-5 : Int32) (3 : Int32) _ _ _ h hP hS (lv_sub hl [8, 9, 10, 11, 12, 7, 6, 5, 4, 3, 2, 1, 0] rfl)
  have j150 : ∀ (c0_0 : Sg) (y1 : Int32) (y5 : Int32) (y6 : Int32) (y7 : Int32) (t0 : Int32) (H : Heap) (locs : List Loc) (ls : Array Slot), pL_refers_j150  c0_0 y1 y5 y6 y7 t0 = some q → (aW D cI cC cS lo aV c0_0 X) H → va_S (fun q => lo ≤ q) s.heap H locs → lv_has ls 21 [(0, .ref aV), (1, .int y1), (5, .int y5), (6, .int y6), (7, .int y7)] → W p l e ({ frames := 7, cells := 0, slots := 0, locals := 161 } : Room) s m ([.ref aV, .int i2, .int i3, .int i4] : List Value).toArray below meth c H locs 0 0 (MQ below (va_Qi (fun (r : Int32) (_ : Unit) => r = q.1) (fun _ t => (aW D cI cC cS lo aV q.2 X) t.heap) (fun q => lo ≤ q)) ([.ref aV, .int i2, .int i3, .int i4] : List Value).toArray s 0 0 (fun q => lo ≤ q)) (F0 m 150 ls [.int t0]) := by
    clear h hP hS hl
    intro c0_0 y1 y5 y6 y7 t0 H locs ls h hP hS hl
    unfold pL_refers_j150 at h
    refine lv_istore (lv' := [(8, .int t0), (0, .ref aV), (1, .int y1), (5, .int y5), (6, .int y6), (7, .int y7)]) hx hb dL_refers_150 hl (by decide) rfl (fun ls hl => ?_)
    refine lv_iload hx hb dL_refers_152 (lv_at hl 5 rfl) ?_
    refine lv_istore (lv' := [(9, .int y7), (8, .int t0), (0, .ref aV), (1, .int y1), (5, .int y5), (6, .int y6), (7, .int y7)]) hx hb dL_refers_154 hl (by decide) rfl (fun ls hl => ?_)
    refine lv_aload_n hx hb dL_refers_156 rfl (lv_at hl 2 rfl) ?_
    refine lv_aload_n hx hb dL_refers_157 rfl (lv_at hl 2 rfl) ?_
    refine lv_iload_n hx hb dL_refers_158 rfl (lv_at hl 3 rfl) ?_
    refine lv_iload hx hb dL_refers_159 (lv_at hl 4 rfl) ?_
    refine lv_iconst (v := (1 : Int32)) hx hb dL_refers_161 (by decide) ?_
    obtain ⟨q18, h17, h⟩ := Option.bind_eq_some_iff.mp h
    refine kciA (va_runV (As := [.int y1, .int y5, .int (1 : Int32)]) (rest := [.ref aV]) ⟨hx, hb, hml, hown, hts⟩ (aX9_verse l D cI cC cS lo aV c0_0 (X) y1 y5 (1 : Int32) h17) (cwV 3 hts gL_refers_X9_verse rfl rfl rfl (by decide +kernel) ⟨Nat.le_of_ble_eq_true rfl, Nat.le_of_ble_eq_true rfl⟩) (kpreVA hP hK hN (Nat.le_trans hz hS.1)) rfl rfl hl.1 rfl (lv_room (Nat.le_of_ble_eq_true rfl)) dL_refers_162 ⟨Nat.le_of_ble_eq_true rfl, Nat.le_of_ble_eq_true rfl⟩) hS (fun H locs hP hS => ?_)
    obtain ⟨q20, h19, h⟩ := Option.bind_eq_some_iff.mp h
    refine kciA (va_runS (As := [.ref aV, .int q18]) (rest := []) ⟨hx, hb, hml, hown, hts⟩ (kL_digits l D cI cC cS lo aV c0_0 (X) q18 h19) (cwS 2 hts gL_refers_L_digits rfl rfl rfl (by decide +kernel) ⟨Nat.le_of_ble_eq_true rfl, Nat.le_of_ble_eq_true rfl⟩) (kpreA hP hK hN (Nat.le_trans hz hS.1)) rfl rfl hl.1 rfl (lv_room (Nat.le_of_ble_eq_true rfl)) dL_refers_165 ⟨Nat.le_of_ble_eq_true rfl, Nat.le_of_ble_eq_true rfl⟩) hS (fun H locs hP hS => ?_)
    refine lv_istore (lv' := [(7, .int q20.1), (9, .int y7), (8, .int t0), (0, .ref aV), (1, .int y1), (5, .int y5), (6, .int y6)]) hx hb dL_refers_168 hl (by decide) rfl (fun ls hl => ?_)
    refine lv_iload hx hb dL_refers_170 (lv_at hl 2 rfl) ?_
    refine lv_if_eq (tgt := 207) hx hb dL_refers_172 (by decide) (fun g => ?_) (fun g => ?_)
    · rw [if_pos g] at h
      refine lv_iconst (v := (0 : Int32)) hx hb dL_refers_207 (by decide) ?_
      obtain rfl := Option.some.inj h
      exact W.zret (v := (0 : Int32)) hx hb hr rfl (fun t ht hW => ⟨⟨_, (), rfl, rfl, by dsimp only; rw [ht]; exact hP⟩, hS.F ht⟩) hS.2.2 dL_refers_208
    · rw [if_neg g] at h
      refine lv_aload_n hx hb dL_refers_175 rfl (lv_at hl 3 rfl) ?_
      refine lv_iload_n hx hb dL_refers_176 rfl (lv_at hl 4 rfl) ?_
      refine lv_iconst (v := (0 : Int32)) hx hb dL_refers_177 (by decide) ?_
      obtain ⟨q22, h21, h⟩ := Option.bind_eq_some_iff.mp h
      refine kciA (va_runV (As := [.int y1, .int (0 : Int32)]) (rest := []) ⟨hx, hb, hml, hown, hts⟩ (aX9_refer l D cI cC cS lo aV q20.2 (X) y1 (0 : Int32) h21) (cwV 2 hts gL_refers_X9_refer rfl rfl rfl (by decide +kernel) ⟨Nat.le_of_ble_eq_true rfl, Nat.le_of_ble_eq_true rfl⟩) (kpreVA hP hK hN (Nat.le_trans hz hS.1)) rfl rfl hl.1 rfl (lv_room (Nat.le_of_ble_eq_true rfl)) dL_refers_178 ⟨Nat.le_of_ble_eq_true rfl, Nat.le_of_ble_eq_true rfl⟩) hS (fun H locs hP hS => ?_)
      refine lv_iload hx hb dL_refers_181 (lv_at hl 5 rfl) ?_
      refine lv_icmp_ne (tgt := 207) hx hb dL_refers_183 (by decide) (fun g => ?_) (fun g => ?_)
      · rw [if_neg g] at h
        refine lv_iconst (v := (0 : Int32)) hx hb dL_refers_207 (by decide) ?_
        obtain rfl := Option.some.inj h
        exact W.zret (v := (0 : Int32)) hx hb hr rfl (fun t ht hW => ⟨⟨_, (), rfl, rfl, by dsimp only; rw [ht]; exact hP⟩, hS.F ht⟩) hS.2.2 dL_refers_208
      · rw [if_pos g] at h
        refine lv_aload_n hx hb dL_refers_186 rfl (lv_at hl 3 rfl) ?_
        refine lv_iload_n hx hb dL_refers_187 rfl (lv_at hl 4 rfl) ?_
        refine lv_iconst (v := (1 : Int32)) hx hb dL_refers_188 (by decide) ?_
        obtain ⟨q24, h23, h⟩ := Option.bind_eq_some_iff.mp h
        refine kciA (va_runV (As := [.int y1, .int (1 : Int32)]) (rest := []) ⟨hx, hb, hml, hown, hts⟩ (aX9_refer l D cI cC cS lo aV q20.2 (X) y1 (1 : Int32) h23) (cwV 2 hts gL_refers_X9_refer rfl rfl rfl (by decide +kernel) ⟨Nat.le_of_ble_eq_true rfl, Nat.le_of_ble_eq_true rfl⟩) (kpreVA hP hK hN (Nat.le_trans hz hS.1)) rfl rfl hl.1 rfl (lv_room (Nat.le_of_ble_eq_true rfl)) dL_refers_189 ⟨Nat.le_of_ble_eq_true rfl, Nat.le_of_ble_eq_true rfl⟩) hS (fun H locs hP hS => ?_)
        refine lv_iload hx hb dL_refers_192 (lv_at hl 5 rfl) ?_
        refine lv_icmp_ne (tgt := 207) hx hb dL_refers_194 (by decide) (fun g => ?_) (fun g => ?_)
        · rw [if_neg g] at h
          refine lv_iconst (v := (0 : Int32)) hx hb dL_refers_207 (by decide) ?_
          obtain rfl := Option.some.inj h
          exact W.zret (v := (0 : Int32)) hx hb hr rfl (fun t ht hW => ⟨⟨_, (), rfl, rfl, by dsimp only; rw [ht]; exact hP⟩, hS.F ht⟩) hS.2.2 dL_refers_208
        · rw [if_pos g] at h
          refine lv_aload_n hx hb dL_refers_197 rfl (lv_at hl 3 rfl) ?_
          refine lv_iload_n hx hb dL_refers_198 rfl (lv_at hl 4 rfl) ?_
          refine lv_iconst (v := (4 : Int32)) hx hb dL_refers_199 (by decide) ?_
          obtain ⟨q26, h25, h⟩ := Option.bind_eq_some_iff.mp h
          refine kciA (va_runV (As := [.int y1, .int (4 : Int32)]) (rest := []) ⟨hx, hb, hml, hown, hts⟩ (aX9_refer l D cI cC cS lo aV q20.2 (X) y1 (4 : Int32) h25) (cwV 2 hts gL_refers_X9_refer rfl rfl rfl (by decide +kernel) ⟨Nat.le_of_ble_eq_true rfl, Nat.le_of_ble_eq_true rfl⟩) (kpreVA hP hK hN (Nat.le_trans hz hS.1)) rfl rfl hl.1 rfl (lv_room (Nat.le_of_ble_eq_true rfl)) dL_refers_200 ⟨Nat.le_of_ble_eq_true rfl, Nat.le_of_ble_eq_true rfl⟩) hS (fun H locs hP hS => ?_)
          refine lv_iconst (v := (1 : Int32)) hx hb dL_refers_203 (by decide) ?_
          refine lv_icmp_eq (tgt := 209) hx hb dL_refers_204 (by decide) (fun g => ?_) (fun g => ?_)
          · rw [if_pos g] at h
            refine lv_aload_n hx hb dL_refers_209 rfl (lv_at hl 3 rfl) ?_
            refine lv_bipush (v := (45 : Int32)) hx hb dL_refers_210 (by decide) ?_
            obtain ⟨q28, h27, h⟩ := Option.bind_eq_some_iff.mp h
            refine kciA (va_runV (As := [.int (45 : Int32)]) (rest := []) ⟨hx, hb, hml, hown, hts⟩ (aX9_type l D cI cC cS lo aV q20.2 (X) (45 : Int32) h27) (cwV 1 hts gL_refers_X9_type rfl rfl rfl (by decide +kernel) ⟨Nat.le_of_ble_eq_true rfl, Nat.le_of_ble_eq_true rfl⟩) (kpreVA hP hK hN (Nat.le_trans hz hS.1)) rfl rfl hl.1 rfl (lv_room (Nat.le_of_ble_eq_true rfl)) dL_refers_212 ⟨Nat.le_of_ble_eq_true rfl, Nat.le_of_ble_eq_true rfl⟩) hS (fun H locs hP hS => ?_)
            refine lv_pop hx hb dL_refers_215 rfl ?_
            refine lv_aload_n hx hb dL_refers_216 rfl (lv_at hl 3 rfl) ?_
            refine lv_iload_n hx hb dL_refers_217 rfl (lv_at hl 4 rfl) ?_
            refine lv_iconst (v := (0 : Int32)) hx hb dL_refers_218 (by decide) ?_
            obtain ⟨q30, h29, h⟩ := Option.bind_eq_some_iff.mp h
            refine kciA (va_runV (As := [.int y1, .int (0 : Int32)]) (rest := []) ⟨hx, hb, hml, hown, hts⟩ (aX9_refer l D cI cC cS lo aV q28.2 (X) y1 (0 : Int32) h29) (cwV 2 hts gL_refers_X9_refer rfl rfl rfl (by decide +kernel) ⟨Nat.le_of_ble_eq_true rfl, Nat.le_of_ble_eq_true rfl⟩) (kpreVA hP hK hN (Nat.le_trans hz hS.1)) rfl rfl hl.1 rfl (lv_room (Nat.le_of_ble_eq_true rfl)) dL_refers_219 ⟨Nat.le_of_ble_eq_true rfl, Nat.le_of_ble_eq_true rfl⟩) hS (fun H locs hP hS => ?_)
            refine lv_bipush (v := (-101 : Int32)) hx hb dL_refers_222 (by decide) ?_
            refine lv_iload hx hb dL_refers_224 (lv_at hl 0 rfl) ?_
            refine lv_isub hx hb dL_refers_226 ?_
            refine lv_icmp_ne (tgt := 234) hx hb dL_refers_227 (by decide) (fun g => ?_) (fun g => ?_)
            · rw [if_neg g] at h
              refine lv_iconst (v := (0 : Int32)) hx hb dL_refers_234 (by decide) ?_
              exact j235 q28.2 y1 y5 y6 y7 (0 : Int32) _ _ _ h hP hS (lv_sub hl [3, 4, 5, 6, 1] rfl)
            · rw [if_pos g] at h
              refine lv_iconst (v := (1 : Int32)) hx hb dL_refers_230 (by decide) ?_
              refine lv_goto (tgt := 235) hx hb dL_refers_231 (by decide) ?_
              exact j235 q28.2 y1 y5 y6 y7 (1 : Int32) _ _ _ h hP hS (lv_sub hl [3, 4, 5, 6, 1] rfl)
          · rw [if_neg g] at h
            refine lv_iconst (v := (0 : Int32)) hx hb dL_refers_207 (by decide) ?_
            obtain rfl := Option.some.inj h
            exact W.zret (v := (0 : Int32)) hx hb hr rfl (fun t ht hW => ⟨⟨_, (), rfl, rfl, by dsimp only; rw [ht]; exact hP⟩, hS.F ht⟩) hS.2.2 dL_refers_208
  have j35 : ∀ (c0_0 : Sg) (y1 : Int32) (t0 : Int32) (H : Heap) (locs : List Loc) (ls : Array Slot), pL_refers_j35  c0_0 y1 t0 = some q → (aW D cI cC cS lo aV c0_0 X) H → va_S (fun q => lo ≤ q) s.heap H locs → lv_has ls 21 [(0, .ref aV), (1, .int y1)] → W p l e ({ frames := 7, cells := 0, slots := 0, locals := 161 } : Room) s m ([.ref aV, .int i2, .int i3, .int i4] : List Value).toArray below meth c H locs 0 0 (MQ below (va_Qi (fun (r : Int32) (_ : Unit) => r = q.1) (fun _ t => (aW D cI cC cS lo aV q.2 X) t.heap) (fun q => lo ≤ q)) ([.ref aV, .int i2, .int i3, .int i4] : List Value).toArray s 0 0 (fun q => lo ≤ q)) (F0 m 35 ls [.int t0]) := by
    clear h hP hS hl
    intro c0_0 y1 t0 H locs ls h hP hS hl
    unfold pL_refers_j35 at h
    refine lv_istore (lv' := [(5, .int t0), (0, .ref aV), (1, .int y1)]) hx hb dL_refers_35 hl (by decide) rfl (fun ls hl => ?_)
    refine lv_aload_n hx hb dL_refers_37 rfl (lv_at hl 1 rfl) ?_
    refine lv_bipush (v := (49 : Int32)) hx hb dL_refers_38 (by decide) ?_
    obtain ⟨q90, h89, h⟩ := Option.bind_eq_some_iff.mp h
    refine kciA (va_runV (As := [.int (49 : Int32)]) (rest := []) ⟨hx, hb, hml, hown, hts⟩ (aX9_type l D cI cC cS lo aV c0_0 (X) (49 : Int32) h89) (cwV 1 hts gL_refers_X9_type rfl rfl rfl (by decide +kernel) ⟨Nat.le_of_ble_eq_true rfl, Nat.le_of_ble_eq_true rfl⟩) (kpreVA hP hK hN (Nat.le_trans hz hS.1)) rfl rfl hl.1 rfl (lv_room (Nat.le_of_ble_eq_true rfl)) dL_refers_40 ⟨Nat.le_of_ble_eq_true rfl, Nat.le_of_ble_eq_true rfl⟩) hS (fun H locs hP hS => ?_)
    refine lv_pop hx hb dL_refers_43 rfl ?_
    refine lv_iload hx hb dL_refers_44 (lv_at hl 0 rfl) ?_
    refine lv_if_eq (tgt := 86) hx hb dL_refers_46 (by decide) (fun g => ?_) (fun g => ?_)
    · rw [if_pos g] at h
      refine lv_iconst (v := (0 : Int32)) hx hb dL_refers_86 (by decide) ?_
      obtain rfl := Option.some.inj h
      exact W.zret (v := (0 : Int32)) hx hb hr rfl (fun t ht hW => ⟨⟨_, (), rfl, rfl, by dsimp only; rw [ht]; exact hP⟩, hS.F ht⟩) hS.2.2 dL_refers_87
    · rw [if_neg g] at h
      refine lv_aload_n hx hb dL_refers_49 rfl (lv_at hl 1 rfl) ?_
      refine lv_iload_n hx hb dL_refers_50 rfl (lv_at hl 2 rfl) ?_
      refine lv_iconst (v := (0 : Int32)) hx hb dL_refers_51 (by decide) ?_
      obtain ⟨q92, h91, h⟩ := Option.bind_eq_some_iff.mp h
      refine kciA (va_runV (As := [.int y1, .int (0 : Int32)]) (rest := []) ⟨hx, hb, hml, hown, hts⟩ (aX9_refer l D cI cC cS lo aV q90.2 (X) y1 (0 : Int32) h91) (cwV 2 hts gL_refers_X9_refer rfl rfl rfl (by decide +kernel) ⟨Nat.le_of_ble_eq_true rfl, Nat.le_of_ble_eq_true rfl⟩) (kpreVA hP hK hN (Nat.le_trans hz hS.1)) rfl rfl hl.1 rfl (lv_room (Nat.le_of_ble_eq_true rfl)) dL_refers_52 ⟨Nat.le_of_ble_eq_true rfl, Nat.le_of_ble_eq_true rfl⟩) hS (fun H locs hP hS => ?_)
      refine lv_bipush (v := (-100 : Int32)) hx hb dL_refers_55 (by decide) ?_
      refine lv_icmp_ne (tgt := 86) hx hb dL_refers_57 (by decide) (fun g => ?_) (fun g => ?_)
      · rw [if_neg g] at h
        refine lv_iconst (v := (0 : Int32)) hx hb dL_refers_86 (by decide) ?_
        obtain rfl := Option.some.inj h
        exact W.zret (v := (0 : Int32)) hx hb hr rfl (fun t ht hW => ⟨⟨_, (), rfl, rfl, by dsimp only; rw [ht]; exact hP⟩, hS.F ht⟩) hS.2.2 dL_refers_87
      · rw [if_pos g] at h
        refine lv_aload_n hx hb dL_refers_60 rfl (lv_at hl 1 rfl) ?_
        refine lv_iconst (v := (2 : Int32)) hx hb dL_refers_61 (by decide) ?_
        refine lv_iconst (v := (0 : Int32)) hx hb dL_refers_62 (by decide) ?_
        obtain ⟨q94, h93, h⟩ := Option.bind_eq_some_iff.mp h
        refine kciA (va_runV (As := [.int (2 : Int32), .int (0 : Int32)]) (rest := []) ⟨hx, hb, hml, hown, hts⟩ (aX9_refer l D cI cC cS lo aV q90.2 (X) (2 : Int32) (0 : Int32) h93) (cwV 2 hts gL_refers_X9_refer rfl rfl rfl (by decide +kernel) ⟨Nat.le_of_ble_eq_true rfl, Nat.le_of_ble_eq_true rfl⟩) (kpreVA hP hK hN (Nat.le_trans hz hS.1)) rfl rfl hl.1 rfl (lv_room (Nat.le_of_ble_eq_true rfl)) dL_refers_63 ⟨Nat.le_of_ble_eq_true rfl, Nat.le_of_ble_eq_true rfl⟩) hS (fun H locs hP hS => ?_)
        refine lv_iconst (v := (-1 : Int32)) hx hb dL_refers_66 (by decide) ?_
        refine lv_icmp_ne (tgt := 86) hx hb dL_refers_67 (by decide) (fun g => ?_) (fun g => ?_)
        · rw [if_neg g] at h
          refine lv_iconst (v := (0 : Int32)) hx hb dL_refers_86 (by decide) ?_
          obtain rfl := Option.some.inj h
          exact W.zret (v := (0 : Int32)) hx hb hr rfl (fun t ht hW => ⟨⟨_, (), rfl, rfl, by dsimp only; rw [ht]; exact hP⟩, hS.F ht⟩) hS.2.2 dL_refers_87
        · rw [if_pos g] at h
          refine lv_aload_n hx hb dL_refers_70 rfl (lv_at hl 1 rfl) ?_
          refine lv_iload_n hx hb dL_refers_71 rfl (lv_at hl 2 rfl) ?_
          refine lv_bipush (v := (7 : Int32)) hx hb dL_refers_72 (by decide) ?_
          obtain ⟨q96, h95, h⟩ := Option.bind_eq_some_iff.mp h
          refine kciA (va_runV (As := [.int y1, .int (7 : Int32)]) (rest := []) ⟨hx, hb, hml, hown, hts⟩ (aX9_refer l D cI cC cS lo aV q90.2 (X) y1 (7 : Int32) h95) (cwV 2 hts gL_refers_X9_refer rfl rfl rfl (by decide +kernel) ⟨Nat.le_of_ble_eq_true rfl, Nat.le_of_ble_eq_true rfl⟩) (kpreVA hP hK hN (Nat.le_trans hz hS.1)) rfl rfl hl.1 rfl (lv_room (Nat.le_of_ble_eq_true rfl)) dL_refers_74 ⟨Nat.le_of_ble_eq_true rfl, Nat.le_of_ble_eq_true rfl⟩) hS (fun H locs hP hS => ?_)
          refine lv_bipush (v := (-2 : Int32)) hx hb dL_refers_77 (by decide) ?_
          refine lv_icmp_ne (tgt := 86) hx hb dL_refers_79 (by decide) (fun g => ?_) (fun g => ?_)
          · rw [if_neg g] at h
            refine lv_iconst (v := (0 : Int32)) hx hb dL_refers_86 (by decide) ?_
            obtain rfl := Option.some.inj h
            exact W.zret (v := (0 : Int32)) hx hb hr rfl (fun t ht hW => ⟨⟨_, (), rfl, rfl, by dsimp only; rw [ht]; exact hP⟩, hS.F ht⟩) hS.2.2 dL_refers_87
          · rw [if_pos g] at h
            refine lv_iconst (v := (1 : Int32)) hx hb dL_refers_82 (by decide) ?_
            refine lv_goto (tgt := 87) hx hb dL_refers_83 (by decide) ?_
            obtain rfl := Option.some.inj h
            exact W.zret (v := (1 : Int32)) hx hb hr rfl (fun t ht hW => ⟨⟨_, (), rfl, rfl, by dsimp only; rw [ht]; exact hP⟩, hS.F ht⟩) hS.2.2 dL_refers_87
  unfold pL_refers at h
  refine lv_aload_n hx hb dL_refers_0 rfl (lv_at hl 0 rfl) ?_
  refine lv_iconst (v := (2 : Int32)) hx hb dL_refers_1 (by decide) ?_
  refine lv_iload_n hx hb dL_refers_2 rfl (lv_at hl 1 rfl) ?_
  refine lv_iadd hx hb dL_refers_3 ?_
  obtain ⟨q2, h1, h⟩ := Option.bind_eq_some_iff.mp h
  refine kciA (va_runV (As := [.int ((2 : Int32) + i2)]) (rest := []) ⟨hx, hb, hml, hown, hts⟩ (aX9_count l D cI cC cS lo aV vO0 (X) ((2 : Int32) + i2) h1) (cwV 1 hts gL_refers_X9_count rfl rfl rfl (by decide +kernel) ⟨Nat.le_of_ble_eq_true rfl, Nat.le_of_ble_eq_true rfl⟩) (kpreVA hP hK hN (Nat.le_trans hz hS.1)) rfl rfl hl.1 rfl (lv_room (Nat.le_of_ble_eq_true rfl)) dL_refers_4 ⟨Nat.le_of_ble_eq_true rfl, Nat.le_of_ble_eq_true rfl⟩) hS (fun H locs hP hS => ?_)
  refine lv_istore (lv' := [(4, .int q2), (0, .ref aV), (1, .int i2), (2, .int i3), (3, .int i4)]) hx hb dL_refers_7 hl (by decide) rfl (fun ls hl => ?_)
  refine lv_aload_n hx hb dL_refers_9 rfl (lv_at hl 1 rfl) ?_
  obtain ⟨q4, h3, h⟩ := Option.bind_eq_some_iff.mp h
  refine kciA (va_runV (As := []) (rest := []) ⟨hx, hb, hml, hown, hts⟩ (aX9_clearText l D cI cC cS lo aV vO0 (X) h3) (cwV 0 hts gL_refers_X9_clearText rfl rfl rfl (by decide +kernel) ⟨Nat.le_of_ble_eq_true rfl, Nat.le_of_ble_eq_true rfl⟩) (kpreVA hP hK hN (Nat.le_trans hz hS.1)) rfl rfl hl.1 rfl (lv_room (Nat.le_of_ble_eq_true rfl)) dL_refers_10 ⟨Nat.le_of_ble_eq_true rfl, Nat.le_of_ble_eq_true rfl⟩) hS (fun H locs hP hS => ?_)
  refine lv_pop hx hb dL_refers_13 rfl ?_
  refine lv_iload hx hb dL_refers_14 (lv_at hl 0 rfl) ?_
  refine lv_if_ne (tgt := 88) hx hb dL_refers_16 (by decide) (fun g => ?_) (fun g => ?_)
  · rw [if_neg g] at h
    refine lv_iload_n hx hb dL_refers_88 rfl (lv_at hl 3 rfl) ?_
    refine lv_iload hx hb dL_refers_89 (lv_at hl 0 rfl) ?_
    obtain ⟨q6, h5, h⟩ := Option.bind_eq_some_iff.mp h
    refine kciA (va_runS (As := [.int i3, .int q2]) (rest := []) ⟨hx, hb, hml, hown, hts⟩ (kL_low l D cI cC cS lo (aW D cI cC cS lo aV q4.2 X) i3 q2 h5) (cwS 2 hts gL_refers_L_low rfl rfl rfl (by decide +kernel) ⟨Nat.le_of_ble_eq_true rfl, Nat.le_of_ble_eq_true rfl⟩) (kpreA hP hK hN (Nat.le_trans hz hS.1)) rfl rfl hl.1 rfl (lv_room (Nat.le_of_ble_eq_true rfl)) dL_refers_91 ⟨Nat.le_of_ble_eq_true rfl, Nat.le_of_ble_eq_true rfl⟩) hS (fun H locs hP hS => ?_)
    refine lv_istore (lv' := [(5, .int q6), (4, .int q2), (0, .ref aV), (1, .int i2), (2, .int i3), (3, .int i4)]) hx hb dL_refers_94 hl (by decide) rfl (fun ls hl => ?_)
    refine lv_iload hx hb dL_refers_96 (lv_at hl 0 rfl) ?_
    refine lv_iload_n hx hb dL_refers_98 rfl (lv_at hl 5 rfl) ?_
    refine lv_iload hx hb dL_refers_99 (lv_at hl 1 rfl) ?_
    refine lv_iload hx hb dL_refers_101 (lv_at hl 0 rfl) ?_
    refine lv_isub hx hb dL_refers_103 ?_
    obtain ⟨q8, h7, h⟩ := Option.bind_eq_some_iff.mp h
    refine kciA (va_runS (As := [.int i4, .int (q2 - q6)]) (rest := [.int q6]) ⟨hx, hb, hml, hown, hts⟩ (kL_low l D cI cC cS lo (aW D cI cC cS lo aV q4.2 X) i4 (q2 - q6) h7) (cwS 2 hts gL_refers_L_low rfl rfl rfl (by decide +kernel) ⟨Nat.le_of_ble_eq_true rfl, Nat.le_of_ble_eq_true rfl⟩) (kpreA hP hK hN (Nat.le_trans hz hS.1)) rfl rfl hl.1 rfl (lv_room (Nat.le_of_ble_eq_true rfl)) dL_refers_104 ⟨Nat.le_of_ble_eq_true rfl, Nat.le_of_ble_eq_true rfl⟩) hS (fun H locs hP hS => ?_)
    refine lv_iadd hx hb dL_refers_107 ?_
    refine lv_istore (lv' := [(6, .int (q6 + q8)), (5, .int q6), (4, .int q2), (0, .ref aV), (1, .int i2), (2, .int i3), (3, .int i4)]) hx hb dL_refers_108 hl (by decide) rfl (fun ls hl => ?_)
    refine lv_aload_n hx hb dL_refers_110 rfl (lv_at hl 3 rfl) ?_
    refine lv_aload_n hx hb dL_refers_111 rfl (lv_at hl 3 rfl) ?_
    refine lv_iload_n hx hb dL_refers_112 rfl (lv_at hl 4 rfl) ?_
    refine lv_iload hx hb dL_refers_113 (lv_at hl 1 rfl) ?_
    refine lv_iconst (v := (0 : Int32)) hx hb dL_refers_115 (by decide) ?_
    obtain ⟨q10, h9, h⟩ := Option.bind_eq_some_iff.mp h
    refine kciA (va_runV (As := [.int i2, .int q6, .int (0 : Int32)]) (rest := [.ref aV]) ⟨hx, hb, hml, hown, hts⟩ (aX9_verse l D cI cC cS lo aV q4.2 (X) i2 q6 (0 : Int32) h9) (cwV 3 hts gL_refers_X9_verse rfl rfl rfl (by decide +kernel) ⟨Nat.le_of_ble_eq_true rfl, Nat.le_of_ble_eq_true rfl⟩) (kpreVA hP hK hN (Nat.le_trans hz hS.1)) rfl rfl hl.1 rfl (lv_room (Nat.le_of_ble_eq_true rfl)) dL_refers_116 ⟨Nat.le_of_ble_eq_true rfl, Nat.le_of_ble_eq_true rfl⟩) hS (fun H locs hP hS => ?_)
    obtain ⟨q12, h11, h⟩ := Option.bind_eq_some_iff.mp h
    refine kciA (va_runS (As := [.ref aV, .int q10]) (rest := []) ⟨hx, hb, hml, hown, hts⟩ (kL_digits l D cI cC cS lo aV q4.2 (X) q10 h11) (cwS 2 hts gL_refers_L_digits rfl rfl rfl (by decide +kernel) ⟨Nat.le_of_ble_eq_true rfl, Nat.le_of_ble_eq_true rfl⟩) (kpreA hP hK hN (Nat.le_trans hz hS.1)) rfl rfl hl.1 rfl (lv_room (Nat.le_of_ble_eq_true rfl)) dL_refers_119 ⟨Nat.le_of_ble_eq_true rfl, Nat.le_of_ble_eq_true rfl⟩) hS (fun H locs hP hS => ?_)
    refine lv_pop hx hb dL_refers_122 rfl ?_
    refine lv_aload_n hx hb dL_refers_123 rfl (lv_at hl 3 rfl) ?_
    refine lv_bipush (v := (58 : Int32)) hx hb dL_refers_124 (by decide) ?_
    obtain ⟨q14, h13, h⟩ := Option.bind_eq_some_iff.mp h
    refine kciA (va_runV (As := [.int (58 : Int32)]) (rest := []) ⟨hx, hb, hml, hown, hts⟩ (aX9_type l D cI cC cS lo aV q12.2 (X) (58 : Int32) h13) (cwV 1 hts gL_refers_X9_type rfl rfl rfl (by decide +kernel) ⟨Nat.le_of_ble_eq_true rfl, Nat.le_of_ble_eq_true rfl⟩) (kpreVA hP hK hN (Nat.le_trans hz hS.1)) rfl rfl hl.1 rfl (lv_room (Nat.le_of_ble_eq_true rfl)) dL_refers_126 ⟨Nat.le_of_ble_eq_true rfl, Nat.le_of_ble_eq_true rfl⟩) hS (fun H locs hP hS => ?_)
    refine lv_istore (lv' := [(7, .int q14.1), (6, .int (q6 + q8)), (5, .int q6), (4, .int q2), (0, .ref aV), (1, .int i2), (2, .int i3), (3, .int i4)]) hx hb dL_refers_129 hl (by decide) rfl (fun ls hl => ?_)
    refine lv_aload_n hx hb dL_refers_131 rfl (lv_at hl 4 rfl) ?_
    refine lv_iload_n hx hb dL_refers_132 rfl (lv_at hl 5 rfl) ?_
    refine lv_iconst (v := (0 : Int32)) hx hb dL_refers_133 (by decide) ?_
    obtain ⟨q16, h15, h⟩ := Option.bind_eq_some_iff.mp h
    refine kciA (va_runV (As := [.int i2, .int (0 : Int32)]) (rest := []) ⟨hx, hb, hml, hown, hts⟩ (aX9_refer l D cI cC cS lo aV q14.2 (X) i2 (0 : Int32) h15) (cwV 2 hts gL_refers_X9_refer rfl rfl rfl (by decide +kernel) ⟨Nat.le_of_ble_eq_true rfl, Nat.le_of_ble_eq_true rfl⟩) (kpreVA hP hK hN (Nat.le_trans hz hS.1)) rfl rfl hl.1 rfl (lv_room (Nat.le_of_ble_eq_true rfl)) dL_refers_134 ⟨Nat.le_of_ble_eq_true rfl, Nat.le_of_ble_eq_true rfl⟩) hS (fun H locs hP hS => ?_)
    refine lv_bipush (v := (-100 : Int32)) hx hb dL_refers_137 (by decide) ?_
    refine lv_iload hx hb dL_refers_139 (lv_at hl 0 rfl) ?_
    refine lv_isub hx hb dL_refers_141 ?_
    refine lv_icmp_ne (tgt := 149) hx hb dL_refers_142 (by decide) (fun g => ?_) (fun g => ?_)
    · rw [if_neg g] at h
      refine lv_iconst (v := (0 : Int32)) hx hb dL_refers_149 (by decide) ?_
      exact j150 q14.2 i2 q6 (q6 + q8) q14.1 (0 : Int32) _ _ _ h hP hS (lv_sub hl [4, 5, 2, 1, 0] rfl)
    · rw [if_pos g] at h
      refine lv_iconst (v := (1 : Int32)) hx hb dL_refers_145 (by decide) ?_
      refine lv_goto (tgt := 150) hx hb dL_refers_146 (by decide) ?_
      exact j150 q14.2 i2 q6 (q6 + q8) q14.1 (1 : Int32) _ _ _ h hP hS (lv_sub hl [4, 5, 2, 1, 0] rfl)
  · rw [if_pos g] at h
    refine lv_aload_n hx hb dL_refers_19 rfl (lv_at hl 1 rfl) ?_
    refine lv_iload_n hx hb dL_refers_20 rfl (lv_at hl 2 rfl) ?_
    refine lv_iconst (v := (0 : Int32)) hx hb dL_refers_21 (by decide) ?_
    obtain ⟨q88, h87, h⟩ := Option.bind_eq_some_iff.mp h
    refine kciA (va_runV (As := [.int i2, .int (0 : Int32)]) (rest := []) ⟨hx, hb, hml, hown, hts⟩ (aX9_refer l D cI cC cS lo aV q4.2 (X) i2 (0 : Int32) h87) (cwV 2 hts gL_refers_X9_refer rfl rfl rfl (by decide +kernel) ⟨Nat.le_of_ble_eq_true rfl, Nat.le_of_ble_eq_true rfl⟩) (kpreVA hP hK hN (Nat.le_trans hz hS.1)) rfl rfl hl.1 rfl (lv_room (Nat.le_of_ble_eq_true rfl)) dL_refers_22 ⟨Nat.le_of_ble_eq_true rfl, Nat.le_of_ble_eq_true rfl⟩) hS (fun H locs hP hS => ?_)
    refine lv_bipush (v := (-100 : Int32)) hx hb dL_refers_25 (by decide) ?_
    refine lv_icmp_ne (tgt := 34) hx hb dL_refers_27 (by decide) (fun g => ?_) (fun g => ?_)
    · rw [if_neg g] at h
      refine lv_iconst (v := (0 : Int32)) hx hb dL_refers_34 (by decide) ?_
      exact j35 q4.2 i2 (0 : Int32) _ _ _ h hP hS (lv_sub hl [1, 2] rfl)
    · rw [if_pos g] at h
      refine lv_iconst (v := (1 : Int32)) hx hb dL_refers_30 (by decide) ?_
      refine lv_goto (tgt := 35) hx hb dL_refers_31 (by decide) ?_
      exact j35 q4.2 i2 (1 : Int32) _ _ _ h hP hS (lv_sub hl [1, 2] rfl)
