-- walks: ref (printed by wip/whole/gen)
set_option maxHeartbeats 8000000 in
set_option maxRecDepth 100000 in
theorem kX10_exchange (l : Launch) (D : va_G) (cI cC cS : ClassId) (aD : Nat × Nat × Nat × Nat × Nat × Nat × Nat × Nat × Nat × Nat × Nat) (vD0 : (Nat → Int32)) (vD1 : (Nat → Int32)) (vD2 : Int32) (vD3 : Int32) (vD4 : (Nat → Int32)) (vD5 : Int32) (vD6 : Int32) (vD7 : Int32) (vD8 : Int32) (vD9 : Int32) (vD10 : Int32) (vD11 : (Nat → Int32)) (vD12 : (Nat → Int32)) (vD13 : Int32) (vD14 : Int32) (vD15 : (Nat → Int32)) (vD16 : Int32) (vD17 : Int32) (vD18 : Int32) (vD19 : (Nat → Int32)) (vD20 : (Nat → Int32)) (vD21 : (Nat → Int32)) (vD22 : (Nat → Int32)) (sz : Nat) {q : Int32 × (Nat → Int32) × (Nat → Int32) × Int32} (h : pX10_exchange vD0 vD1 vD2 = some q) : kMi l yX10_exchange wsX10_exchange ({ frames := 1, cells := 0, slots := 0, locals := 23 } : Room) D (kTy cI cC cS) [.ref aD.1] (wMD cC cI aD vD0 vD1 vD2 vD3 vD4 vD5 vD6 vD7 vD8 vD9 vD10 vD11 vD12 vD13 vD14 vD15 vD16 vD17 vD18 vD19 vD20 vD21 vD22) sz q.1 (wMD cC cI aD q.2.1 q.2.2.1 q.2.2.2 vD3 vD4 vD5 vD6 vD7 vD8 vD9 vD10 vD11 vD12 vD13 vD14 vD15 vD16 vD17 vD18 vD19 vD20 vD21 vD22) := by
  refine Met.ofW (cc := cX10_exchange) (maxL := 3) (ret := (some .int)) (by decide) rfl ?_
  intro p e s m args below meth c s₁ B hml hv
  obtain ⟨rfl, hsz, hP, hK, hD0, hN⟩ := hv
  have hx := B.exec
  have hb := B.bytes
  have hr := B.returns
  have hts := atoms_spec (ws := wsX10_exchange) B.pre
  have hown : s.vm.findClass RX10 = some m.cls := findClass_of_methodNamed B.named
  have hlocks := B.notSynchronized
  subst hsz
  have hD := hD0.self (sz := s.heap.size)
  generalize hAe : va_A (wMD cC cI aD vD0 vD1 vD2 vD3 vD4 vD5 vD6 vD7 vD8 vD9 vD10 vD11 vD12 vD13 vD14 vD15 vD16 vD17 vD18 vD19 vD20 vD21 vD22) s.heap.size = A at hD ⊢
  have hA : ∀ q : Nat, s.heap.size ≤ q → A q := fun q h => by rw [← hAe]; exact Or.inr h
  have hS : va_S A s.heap s.heap [] := va_S.rf
  have hl := lv_entry ([.ref aD.1]) (n := 3) (Nat.le_of_ble_eq_true rfl)
  rw [lg_entry_eq]
  generalize (lg_sl ([.ref aD.1]) ++ List.replicate (3 - (lg_sl ([.ref aD.1])).length) Slot.unset).toArray = ls at hl ⊢
  have hl : lv_has ls 3 [(0, .ref aD.1)] := hl
  have L78 : ∀ (nL78 : Nat) (c0_0 : (Nat → Int32)) (c0_1 : (Nat → Int32)) (c0_2 : Int32) (y1 : Int32) (y2 : Int32) (H : Heap) (locs : List Loc) (ls : Array Slot), pX10_exchange_L78  nL78 c0_0 c0_1 c0_2 y1 y2 = some q → va_P D vwCl (wMD cC cI aD c0_0 c0_1 c0_2 vD3 vD4 vD5 vD6 vD7 vD8 vD9 vD10 vD11 vD12 vD13 vD14 vD15 vD16 vD17 vD18 vD19 vD20 vD21 vD22) H → va_D A (wMD cC cI aD c0_0 c0_1 c0_2 vD3 vD4 vD5 vD6 vD7 vD8 vD9 vD10 vD11 vD12 vD13 vD14 vD15 vD16 vD17 vD18 vD19 vD20 vD21 vD22) → va_S A s.heap H locs → lv_has ls 3 [(0, .ref aD.1), (1, .int y1), (2, .int y2)] → W p l e ({ frames := 1, cells := 0, slots := 0, locals := 23 } : Room) s m ([.ref aD.1] : List Value).toArray below meth c H locs 0 0 (MQ below (va_Qi (fun (r : Int32) (_ : Unit) => r = q.1) (fun _ => kPost D (wMD cC cI aD q.2.1 q.2.2.1 q.2.2.2 vD3 vD4 vD5 vD6 vD7 vD8 vD9 vD10 vD11 vD12 vD13 vD14 vD15 vD16 vD17 vD18 vD19 vD20 vD21 vD22) A) A) ([.ref aD.1] : List Value).toArray s 0 0 A) (F0 m 78 ls []) := by
    clear h hP hD hS hl
    intro nL78
    induction nL78 with
    | zero => intro c0_0 c0_1 c0_2 y1 y2 H locs ls h; have h : (none : Option (Int32 × (Nat → Int32) × (Nat → Int32) × Int32)) = some q := h; cases h
    | succ nL78 ihL78 =>
      have j121 : ∀ (c0_0 : (Nat → Int32)) (c0_1 : (Nat → Int32)) (c0_2 : Int32) (y2 : Int32) (t0 : Int32) (t1 : Int32) (H : Heap) (locs : List Loc) (ls : Array Slot), pX10_exchange_j121 (pX10_exchange_L78  nL78) c0_0 c0_1 c0_2 y2 t0 t1 = some q → va_P D vwCl (wMD cC cI aD c0_0 c0_1 c0_2 vD3 vD4 vD5 vD6 vD7 vD8 vD9 vD10 vD11 vD12 vD13 vD14 vD15 vD16 vD17 vD18 vD19 vD20 vD21 vD22) H → va_D A (wMD cC cI aD c0_0 c0_1 c0_2 vD3 vD4 vD5 vD6 vD7 vD8 vD9 vD10 vD11 vD12 vD13 vD14 vD15 vD16 vD17 vD18 vD19 vD20 vD21 vD22) → va_S A s.heap H locs → lv_has ls 3 [(0, .ref aD.1), (2, .int y2)] → W p l e ({ frames := 1, cells := 0, slots := 0, locals := 23 } : Room) s m ([.ref aD.1] : List Value).toArray below meth c H locs 0 0 (MQ below (va_Qi (fun (r : Int32) (_ : Unit) => r = q.1) (fun _ => kPost D (wMD cC cI aD q.2.1 q.2.2.1 q.2.2.2 vD3 vD4 vD5 vD6 vD7 vD8 vD9 vD10 vD11 vD12 vD13 vD14 vD15 vD16 vD17 vD18 vD19 vD20 vD21 vD22) A) A) ([.ref aD.1] : List Value).toArray s 0 0 A) (F0 m 121 ls [.int t1, .int t0]) := by
        skip
        intro c0_0 c0_1 c0_2 y2 t0 t1 H locs ls h hP hD hS hl
        unfold pX10_exchange_j121 at h
        refine lv_iadd hx hb dX10_exchange_121 ?_
        refine lv_istore_n (lv' := [(1, .int (t0 + t1)), (0, .ref aD.1), (2, .int y2)]) hx hb dX10_exchange_122 rfl hl (by decide) rfl (fun ls hl => ?_)
        refine lv_iinc (v := (y2 + (1 : Int32))) (lv' := [(2, .int (y2 + (1 : Int32))), (1, .int (t0 + t1)), (0, .ref aD.1)]) hx hb dX10_exchange_123 hl (k := 2) rfl rfl (by decide) rfl (fun ls hl => ?_)
        refine lv_goto (tgt := 78) hx hb dX10_exchange_126 (by decide) ?_
        exact ihL78 c0_0 c0_1 c0_2 (t0 + t1) (y2 + (1 : Int32)) _ _ _ h hP hD hS (lv_sub hl [2, 1, 0] rfl)
      intro c0_0 c0_1 c0_2 y1 y2 H locs ls h hP hD hS hl
      have h : pX10_exchange_bL78 (pX10_exchange_L78  nL78) c0_0 c0_1 c0_2 y1 y2 = some q := h
      unfold pX10_exchange_bL78 at h
      refine lv_iload_n hx hb dX10_exchange_78 rfl (lv_at hl 2 rfl) ?_
      refine lv_aload_n hx hb dX10_exchange_79 rfl (lv_at hl 0 rfl) ?_
      obtain ⟨q8, h7, h⟩ := Option.bind_eq_some_iff.mp h
      refine kcir [0, 1, 2, 3, 4, 5, 6, 7, 8, 9, 10] (va_runV (As := []) (rest := [.int y2]) ⟨hx, hb, hml, hown, hts⟩ (kX10_groups l D cI cC cS aD c0_0 c0_1 c0_2 vD3 vD4 vD5 vD6 vD7 vD8 vD9 vD10 vD11 vD12 vD13 vD14 vD15 vD16 vD17 vD18 vD19 vD20 vD21 vD22 H.size h7) (cwV 0 hts gX10_exchange_X10_groups rfl rfl rfl (by decide +kernel) ⟨Nat.le_of_ble_eq_true rfl, Nat.le_of_ble_eq_true rfl⟩) (kpreV hK hN hP hD [0, 1, 2, 3, 4, 5, 6, 7, 8, 9, 10] rfl (by decide) 10 rfl rfl) rfl rfl hl.1 rfl (lv_room (Nat.le_of_ble_eq_true rfl)) dX10_exchange_80 ⟨Nat.le_refl _, Nat.le_refl _⟩) hP hD hS hA rfl (fun H locs hP hS => ?_)
      refine lv_icmp_ge (tgt := 129) hx hb dX10_exchange_83 (by decide) (fun g => ?_) (fun g => ?_)
      · rw [if_pos g] at h
        refine lv_iload_n hx hb dX10_exchange_129 rfl (lv_at hl 1 rfl) ?_
        obtain rfl := Option.some.inj h
        exact W.iret (v := y1) hx hb hr (fun t ht hW => ⟨⟨_, (), rfl, rfl, by rw [ht]; exact hP, hD⟩, hS.F ht⟩) hS.2.2 dX10_exchange_130
      · rw [if_neg g] at h
        refine lv_aload_n hx hb dX10_exchange_86 rfl (lv_at hl 0 rfl) ?_
        refine lv_sipush (v := (365 : Int32)) hx hb dX10_exchange_87 (by decide) ?_
        refine lv_iload_n hx hb dX10_exchange_90 rfl (lv_at hl 2 rfl) ?_
        refine lv_iadd hx hb dX10_exchange_91 ?_
        refine lv_sipush (v := (485 : Int32)) hx hb dX10_exchange_92 (by decide) ?_
        refine lv_iload_n hx hb dX10_exchange_95 rfl (lv_at hl 2 rfl) ?_
        refine lv_iadd hx hb dX10_exchange_96 ?_
        obtain ⟨q10, h9, h⟩ := Option.bind_eq_some_iff.mp h
        refine kcvw (ws' := (wMD cC cI aD q10 c0_1 c0_2 vD3 vD4 vD5 vD6 vD7 vD8 vD9 vD10 vD11 vD12 vD13 vD14 vD15 vD16 vD17 vD18 vD19 vD20 vD21 vD22)) [0, 1, 2, 3, 4, 5, 6, 7, 8, 9, 10] (va_runV (As := [.int ((365 : Int32) + y2), .int ((485 : Int32) + y2)]) (rest := []) ⟨hx, hb, hml, hown, hts⟩ (kX10_swap l D cI cC cS aD c0_0 c0_1 c0_2 vD3 vD4 vD5 vD6 vD7 vD8 vD9 vD10 vD11 vD12 vD13 vD14 vD15 vD16 vD17 vD18 vD19 vD20 vD21 vD22 ((365 : Int32) + y2) ((485 : Int32) + y2) H.size h9) (cwV 2 hts gX10_exchange_X10_swap rfl rfl rfl (by decide +kernel) ⟨Nat.le_of_ble_eq_true rfl, Nat.le_of_ble_eq_true rfl⟩) (kpreV hK hN hP hD [0, 1, 2, 3, 4, 5, 6, 7, 8, 9, 10] rfl (by decide) 10 rfl rfl) rfl rfl hl.1 rfl (lv_room (Nat.le_of_ble_eq_true rfl)) dX10_exchange_97 ⟨Nat.le_refl _, Nat.le_refl _⟩) hP hD hS hA rfl (by decide) rfl [1, 2, 3, 4, 5, 6, 7, 8, 9, 10, 11] (by decide +kernel) rfl (fun H locs hP hD hS => ?_)
        refine lv_iload_n hx hb dX10_exchange_100 rfl (lv_at hl 1 rfl) ?_
        refine lv_aload_n hx hb dX10_exchange_101 rfl (lv_at hl 0 rfl) ?_
        refine lv_iload_n hx hb dX10_exchange_102 rfl (lv_at hl 2 rfl) ?_
        refine lv_iconst (v := (0 : Int32)) hx hb dX10_exchange_103 (by decide) ?_
        obtain ⟨q12, h11, h⟩ := Option.bind_eq_some_iff.mp h
        refine kcir [0, 1, 2, 3, 4, 5, 6, 7, 8, 9, 10] (va_runV (As := [.int y2, .int (0 : Int32)]) (rest := [.int y1]) ⟨hx, hb, hml, hown, hts⟩ (kX10_has l D cI cC cS aD q10 c0_1 c0_2 vD3 vD4 vD5 vD6 vD7 vD8 vD9 vD10 vD11 vD12 vD13 vD14 vD15 vD16 vD17 vD18 vD19 vD20 vD21 vD22 y2 (0 : Int32) H.size h11) (cwV 2 hts gX10_exchange_X10_has rfl rfl rfl (by decide +kernel) ⟨Nat.le_of_ble_eq_true rfl, Nat.le_of_ble_eq_true rfl⟩) (kpreV hK hN hP hD [0, 1, 2, 3, 4, 5, 6, 7, 8, 9, 10] rfl (by decide) 10 rfl rfl) rfl rfl hl.1 rfl (lv_room (Nat.le_of_ble_eq_true rfl)) dX10_exchange_104 ⟨Nat.le_refl _, Nat.le_refl _⟩) hP hD hS hA rfl (fun H locs hP hS => ?_)
        refine lv_aload_n hx hb dX10_exchange_107 rfl (lv_at hl 0 rfl) ?_
        refine lv_iload_n hx hb dX10_exchange_108 rfl (lv_at hl 2 rfl) ?_
        refine lv_iconst (v := (1 : Int32)) hx hb dX10_exchange_109 (by decide) ?_
        obtain ⟨q14, h13, h⟩ := Option.bind_eq_some_iff.mp h
        refine kcir [0, 1, 2, 3, 4, 5, 6, 7, 8, 9, 10] (va_runV (As := [.int y2, .int (1 : Int32)]) (rest := [.int q12, .int y1]) ⟨hx, hb, hml, hown, hts⟩ (kX10_has l D cI cC cS aD q10 c0_1 c0_2 vD3 vD4 vD5 vD6 vD7 vD8 vD9 vD10 vD11 vD12 vD13 vD14 vD15 vD16 vD17 vD18 vD19 vD20 vD21 vD22 y2 (1 : Int32) H.size h13) (cwV 2 hts gX10_exchange_X10_has rfl rfl rfl (by decide +kernel) ⟨Nat.le_of_ble_eq_true rfl, Nat.le_of_ble_eq_true rfl⟩) (kpreV hK hN hP hD [0, 1, 2, 3, 4, 5, 6, 7, 8, 9, 10] rfl (by decide) 10 rfl rfl) rfl rfl hl.1 rfl (lv_room (Nat.le_of_ble_eq_true rfl)) dX10_exchange_110 ⟨Nat.le_refl _, Nat.le_refl _⟩) hP hD hS hA rfl (fun H locs hP hS => ?_)
        refine lv_icmp_ne (tgt := 120) hx hb dX10_exchange_113 (by decide) (fun g => ?_) (fun g => ?_)
        · rw [if_neg g] at h
          refine lv_iconst (v := (0 : Int32)) hx hb dX10_exchange_120 (by decide) ?_
          exact j121 q10 c0_1 c0_2 y2 y1 (0 : Int32) _ _ _ h hP hD hS (lv_sub hl [0, 2] rfl)
        · rw [if_pos g] at h
          refine lv_iconst (v := (1 : Int32)) hx hb dX10_exchange_116 (by decide) ?_
          refine lv_goto (tgt := 121) hx hb dX10_exchange_117 (by decide) ?_
          exact j121 q10 c0_1 c0_2 y2 y1 (1 : Int32) _ _ _ h hP hD hS (lv_sub hl [0, 2] rfl)
  have L6 : ∀ (nL6 : Nat) (c0_0 : (Nat → Int32)) (c0_1 : (Nat → Int32)) (c0_2 : Int32) (y1 : Int32) (H : Heap) (locs : List Loc) (ls : Array Slot), pX10_exchange_L6  nL6 c0_0 c0_1 c0_2 y1 = some q → va_P D vwCl (wMD cC cI aD c0_0 c0_1 c0_2 vD3 vD4 vD5 vD6 vD7 vD8 vD9 vD10 vD11 vD12 vD13 vD14 vD15 vD16 vD17 vD18 vD19 vD20 vD21 vD22) H → va_D A (wMD cC cI aD c0_0 c0_1 c0_2 vD3 vD4 vD5 vD6 vD7 vD8 vD9 vD10 vD11 vD12 vD13 vD14 vD15 vD16 vD17 vD18 vD19 vD20 vD21 vD22) → va_S A s.heap H locs → lv_has ls 3 [(0, .ref aD.1), (1, .int y1)] → W p l e ({ frames := 1, cells := 0, slots := 0, locals := 23 } : Room) s m ([.ref aD.1] : List Value).toArray below meth c H locs 0 0 (MQ below (va_Qi (fun (r : Int32) (_ : Unit) => r = q.1) (fun _ => kPost D (wMD cC cI aD q.2.1 q.2.2.1 q.2.2.2 vD3 vD4 vD5 vD6 vD7 vD8 vD9 vD10 vD11 vD12 vD13 vD14 vD15 vD16 vD17 vD18 vD19 vD20 vD21 vD22) A) A) ([.ref aD.1] : List Value).toArray s 0 0 A) (F0 m 6 ls []) := by
    clear h hP hD hS hl
    intro nL6
    induction nL6 with
    | zero => intro c0_0 c0_1 c0_2 y1 H locs ls h; have h : (none : Option (Int32 × (Nat → Int32) × (Nat → Int32) × Int32)) = some q := h; cases h
    | succ nL6 ihL6 =>
      intro c0_0 c0_1 c0_2 y1 H locs ls h hP hD hS hl
      have h : pX10_exchange_bL6 (pX10_exchange_L6  nL6) c0_0 c0_1 c0_2 y1 = some q := h
      unfold pX10_exchange_bL6 at h
      refine lv_iload_n hx hb dX10_exchange_6 rfl (lv_at hl 1 rfl) ?_
      refine lv_bipush (v := (60 : Int32)) hx hb dX10_exchange_7 (by decide) ?_
      refine lv_icmp_ge (tgt := 54) hx hb dX10_exchange_9 (by decide) (fun g => ?_) (fun g => ?_)
      · rw [if_pos g] at h
        refine lv_aload_n hx hb dX10_exchange_54 rfl (lv_at hl 0 rfl) ?_
        refine lv_sipush (v := (360 : Int32)) hx hb dX10_exchange_55 (by decide) ?_
        refine lv_sipush (v := (361 : Int32)) hx hb dX10_exchange_58 (by decide) ?_
        obtain ⟨q4, h3, h⟩ := Option.bind_eq_some_iff.mp h
        refine kcvw (ws' := (wMD cC cI aD q4 c0_1 c0_2 vD3 vD4 vD5 vD6 vD7 vD8 vD9 vD10 vD11 vD12 vD13 vD14 vD15 vD16 vD17 vD18 vD19 vD20 vD21 vD22)) [0, 1, 2, 3, 4, 5, 6, 7, 8, 9, 10] (va_runV (As := [.int (360 : Int32), .int (361 : Int32)]) (rest := []) ⟨hx, hb, hml, hown, hts⟩ (kX10_swap l D cI cC cS aD c0_0 c0_1 c0_2 vD3 vD4 vD5 vD6 vD7 vD8 vD9 vD10 vD11 vD12 vD13 vD14 vD15 vD16 vD17 vD18 vD19 vD20 vD21 vD22 (360 : Int32) (361 : Int32) H.size h3) (cwV 2 hts gX10_exchange_X10_swap rfl rfl rfl (by decide +kernel) ⟨Nat.le_of_ble_eq_true rfl, Nat.le_of_ble_eq_true rfl⟩) (kpreV hK hN hP hD [0, 1, 2, 3, 4, 5, 6, 7, 8, 9, 10] rfl (by decide) 10 rfl rfl) rfl rfl hl.1 rfl (lv_room (Nat.le_of_ble_eq_true rfl)) dX10_exchange_61 ⟨Nat.le_refl _, Nat.le_refl _⟩) hP hD hS hA rfl (by decide) rfl [1, 2, 3, 4, 5, 6, 7, 8, 9, 10, 11] (by decide +kernel) rfl (fun H locs hP hD hS => ?_)
        refine lv_aload_n hx hb dX10_exchange_64 rfl (lv_at hl 0 rfl) ?_
        refine lv_sipush (v := (362 : Int32)) hx hb dX10_exchange_65 (by decide) ?_
        refine lv_sipush (v := (363 : Int32)) hx hb dX10_exchange_68 (by decide) ?_
        obtain ⟨q6, h5, h⟩ := Option.bind_eq_some_iff.mp h
        refine kcvw (ws' := (wMD cC cI aD q6 c0_1 c0_2 vD3 vD4 vD5 vD6 vD7 vD8 vD9 vD10 vD11 vD12 vD13 vD14 vD15 vD16 vD17 vD18 vD19 vD20 vD21 vD22)) [0, 1, 2, 3, 4, 5, 6, 7, 8, 9, 10] (va_runV (As := [.int (362 : Int32), .int (363 : Int32)]) (rest := []) ⟨hx, hb, hml, hown, hts⟩ (kX10_swap l D cI cC cS aD q4 c0_1 c0_2 vD3 vD4 vD5 vD6 vD7 vD8 vD9 vD10 vD11 vD12 vD13 vD14 vD15 vD16 vD17 vD18 vD19 vD20 vD21 vD22 (362 : Int32) (363 : Int32) H.size h5) (cwV 2 hts gX10_exchange_X10_swap rfl rfl rfl (by decide +kernel) ⟨Nat.le_of_ble_eq_true rfl, Nat.le_of_ble_eq_true rfl⟩) (kpreV hK hN hP hD [0, 1, 2, 3, 4, 5, 6, 7, 8, 9, 10] rfl (by decide) 10 rfl rfl) rfl rfl hl.1 rfl (lv_room (Nat.le_of_ble_eq_true rfl)) dX10_exchange_71 ⟨Nat.le_refl _, Nat.le_refl _⟩) hP hD hS hA rfl (by decide) rfl [1, 2, 3, 4, 5, 6, 7, 8, 9, 10, 11] (by decide +kernel) rfl (fun H locs hP hD hS => ?_)
        refine lv_iconst (v := (0 : Int32)) hx hb dX10_exchange_74 (by decide) ?_
        refine lv_istore_n (lv' := [(1, .int (0 : Int32)), (0, .ref aD.1)]) hx hb dX10_exchange_75 rfl hl (by decide) rfl (fun ls hl => ?_)
        refine lv_iconst (v := (0 : Int32)) hx hb dX10_exchange_76 (by decide) ?_
        refine lv_istore_n (lv' := [(2, .int (0 : Int32)), (1, .int (0 : Int32)), (0, .ref aD.1)]) hx hb dX10_exchange_77 rfl hl (by decide) rfl (fun ls hl => ?_)
        exact L78 4000 q6 c0_1 c0_2 (0 : Int32) (0 : Int32) _ _ _ h hP hD hS (lv_sub hl [2, 1, 0] rfl)
      · rw [if_neg g] at h
        refine lv_aload_n hx hb dX10_exchange_12 rfl (lv_at hl 0 rfl) ?_
        refine lv_iload_n hx hb dX10_exchange_13 rfl (lv_at hl 1 rfl) ?_
        refine lv_bipush (v := (60 : Int32)) hx hb dX10_exchange_14 (by decide) ?_
        refine lv_iload_n hx hb dX10_exchange_16 rfl (lv_at hl 1 rfl) ?_
        refine lv_iadd hx hb dX10_exchange_17 ?_
        obtain ⟨q16, h15, h⟩ := Option.bind_eq_some_iff.mp h
        refine kcvw (ws' := (wMD cC cI aD q16 c0_1 c0_2 vD3 vD4 vD5 vD6 vD7 vD8 vD9 vD10 vD11 vD12 vD13 vD14 vD15 vD16 vD17 vD18 vD19 vD20 vD21 vD22)) [0, 1, 2, 3, 4, 5, 6, 7, 8, 9, 10] (va_runV (As := [.int y1, .int ((60 : Int32) + y1)]) (rest := []) ⟨hx, hb, hml, hown, hts⟩ (kX10_swap l D cI cC cS aD c0_0 c0_1 c0_2 vD3 vD4 vD5 vD6 vD7 vD8 vD9 vD10 vD11 vD12 vD13 vD14 vD15 vD16 vD17 vD18 vD19 vD20 vD21 vD22 y1 ((60 : Int32) + y1) H.size h15) (cwV 2 hts gX10_exchange_X10_swap rfl rfl rfl (by decide +kernel) ⟨Nat.le_of_ble_eq_true rfl, Nat.le_of_ble_eq_true rfl⟩) (kpreV hK hN hP hD [0, 1, 2, 3, 4, 5, 6, 7, 8, 9, 10] rfl (by decide) 10 rfl rfl) rfl rfl hl.1 rfl (lv_room (Nat.le_of_ble_eq_true rfl)) dX10_exchange_18 ⟨Nat.le_refl _, Nat.le_refl _⟩) hP hD hS hA rfl (by decide) rfl [1, 2, 3, 4, 5, 6, 7, 8, 9, 10, 11] (by decide +kernel) rfl (fun H locs hP hD hS => ?_)
        refine lv_aload_n hx hb dX10_exchange_21 rfl (lv_at hl 0 rfl) ?_
        refine lv_bipush (v := (120 : Int32)) hx hb dX10_exchange_22 (by decide) ?_
        refine lv_iload_n hx hb dX10_exchange_24 rfl (lv_at hl 1 rfl) ?_
        refine lv_iadd hx hb dX10_exchange_25 ?_
        refine lv_sipush (v := (180 : Int32)) hx hb dX10_exchange_26 (by decide) ?_
        refine lv_iload_n hx hb dX10_exchange_29 rfl (lv_at hl 1 rfl) ?_
        refine lv_iadd hx hb dX10_exchange_30 ?_
        obtain ⟨q18, h17, h⟩ := Option.bind_eq_some_iff.mp h
        refine kcvw (ws' := (wMD cC cI aD q18 c0_1 c0_2 vD3 vD4 vD5 vD6 vD7 vD8 vD9 vD10 vD11 vD12 vD13 vD14 vD15 vD16 vD17 vD18 vD19 vD20 vD21 vD22)) [0, 1, 2, 3, 4, 5, 6, 7, 8, 9, 10] (va_runV (As := [.int ((120 : Int32) + y1), .int ((180 : Int32) + y1)]) (rest := []) ⟨hx, hb, hml, hown, hts⟩ (kX10_swap l D cI cC cS aD q16 c0_1 c0_2 vD3 vD4 vD5 vD6 vD7 vD8 vD9 vD10 vD11 vD12 vD13 vD14 vD15 vD16 vD17 vD18 vD19 vD20 vD21 vD22 ((120 : Int32) + y1) ((180 : Int32) + y1) H.size h17) (cwV 2 hts gX10_exchange_X10_swap rfl rfl rfl (by decide +kernel) ⟨Nat.le_of_ble_eq_true rfl, Nat.le_of_ble_eq_true rfl⟩) (kpreV hK hN hP hD [0, 1, 2, 3, 4, 5, 6, 7, 8, 9, 10] rfl (by decide) 10 rfl rfl) rfl rfl hl.1 rfl (lv_room (Nat.le_of_ble_eq_true rfl)) dX10_exchange_31 ⟨Nat.le_refl _, Nat.le_refl _⟩) hP hD hS hA rfl (by decide) rfl [1, 2, 3, 4, 5, 6, 7, 8, 9, 10, 11] (by decide +kernel) rfl (fun H locs hP hD hS => ?_)
        refine lv_aload_n hx hb dX10_exchange_34 rfl (lv_at hl 0 rfl) ?_
        refine lv_sipush (v := (240 : Int32)) hx hb dX10_exchange_35 (by decide) ?_
        refine lv_iload_n hx hb dX10_exchange_38 rfl (lv_at hl 1 rfl) ?_
        refine lv_iadd hx hb dX10_exchange_39 ?_
        refine lv_sipush (v := (300 : Int32)) hx hb dX10_exchange_40 (by decide) ?_
        refine lv_iload_n hx hb dX10_exchange_43 rfl (lv_at hl 1 rfl) ?_
        refine lv_iadd hx hb dX10_exchange_44 ?_
        obtain ⟨q20, h19, h⟩ := Option.bind_eq_some_iff.mp h
        refine kcvw (ws' := (wMD cC cI aD q20 c0_1 c0_2 vD3 vD4 vD5 vD6 vD7 vD8 vD9 vD10 vD11 vD12 vD13 vD14 vD15 vD16 vD17 vD18 vD19 vD20 vD21 vD22)) [0, 1, 2, 3, 4, 5, 6, 7, 8, 9, 10] (va_runV (As := [.int ((240 : Int32) + y1), .int ((300 : Int32) + y1)]) (rest := []) ⟨hx, hb, hml, hown, hts⟩ (kX10_swap l D cI cC cS aD q18 c0_1 c0_2 vD3 vD4 vD5 vD6 vD7 vD8 vD9 vD10 vD11 vD12 vD13 vD14 vD15 vD16 vD17 vD18 vD19 vD20 vD21 vD22 ((240 : Int32) + y1) ((300 : Int32) + y1) H.size h19) (cwV 2 hts gX10_exchange_X10_swap rfl rfl rfl (by decide +kernel) ⟨Nat.le_of_ble_eq_true rfl, Nat.le_of_ble_eq_true rfl⟩) (kpreV hK hN hP hD [0, 1, 2, 3, 4, 5, 6, 7, 8, 9, 10] rfl (by decide) 10 rfl rfl) rfl rfl hl.1 rfl (lv_room (Nat.le_of_ble_eq_true rfl)) dX10_exchange_45 ⟨Nat.le_refl _, Nat.le_refl _⟩) hP hD hS hA rfl (by decide) rfl [1, 2, 3, 4, 5, 6, 7, 8, 9, 10, 11] (by decide +kernel) rfl (fun H locs hP hD hS => ?_)
        refine lv_iinc (v := (y1 + (1 : Int32))) (lv' := [(1, .int (y1 + (1 : Int32))), (0, .ref aD.1)]) hx hb dX10_exchange_48 hl (k := 1) rfl rfl (by decide) rfl (fun ls hl => ?_)
        refine lv_goto (tgt := 6) hx hb dX10_exchange_51 (by decide) ?_
        exact ihL6 q20 c0_1 c0_2 (y1 + (1 : Int32)) _ _ _ h hP hD hS (lv_sub hl [1, 0] rfl)
  unfold pX10_exchange at h
  refine lv_aload_n hx hb dX10_exchange_0 rfl (lv_at hl 0 rfl) ?_
  obtain ⟨q2, h1, h⟩ := Option.bind_eq_some_iff.mp h
  refine kcvw (ws' := (wMD cC cI aD vD0 q2.1 q2.2 vD3 vD4 vD5 vD6 vD7 vD8 vD9 vD10 vD11 vD12 vD13 vD14 vD15 vD16 vD17 vD18 vD19 vD20 vD21 vD22)) [0, 1, 2, 3, 4, 5, 6, 7, 8, 9, 10] (va_runV (As := []) (rest := []) ⟨hx, hb, hml, hown, hts⟩ (kX10_record l D cI cC cS aD vD0 vD1 vD2 vD3 vD4 vD5 vD6 vD7 vD8 vD9 vD10 vD11 vD12 vD13 vD14 vD15 vD16 vD17 vD18 vD19 vD20 vD21 vD22 s.heap.size h1) (cwV 0 hts gX10_exchange_X10_record rfl rfl rfl (by decide +kernel) ⟨Nat.le_of_ble_eq_true rfl, Nat.le_of_ble_eq_true rfl⟩) (kpreV hK hN hP hD [0, 1, 2, 3, 4, 5, 6, 7, 8, 9, 10] rfl (by decide) 10 rfl rfl) rfl rfl hl.1 rfl (lv_room (Nat.le_of_ble_eq_true rfl)) dX10_exchange_1 ⟨Nat.le_refl _, Nat.le_refl _⟩) hP hD hS hA rfl (by decide) rfl [1, 2, 3, 4, 5, 6, 7, 8, 9, 10, 11] (by decide +kernel) rfl (fun H locs hP hD hS => ?_)
  refine lv_iconst (v := (0 : Int32)) hx hb dX10_exchange_4 (by decide) ?_
  refine lv_istore_n (lv' := [(1, .int (0 : Int32)), (0, .ref aD.1)]) hx hb dX10_exchange_5 rfl hl (by decide) rfl (fun ls hl => ?_)
  exact L6 4000 vD0 q2.1 q2.2 (0 : Int32) _ _ _ h hP hD hS (lv_sub hl [1, 0] rfl)
set_option maxHeartbeats 8000000 in
set_option maxRecDepth 100000 in
theorem kX10_type (l : Launch) (D : va_G) (cI cC cS : ClassId) (aD : Nat × Nat × Nat × Nat × Nat × Nat × Nat × Nat × Nat × Nat × Nat) (vD0 : (Nat → Int32)) (vD1 : (Nat → Int32)) (vD2 : Int32) (vD3 : Int32) (vD4 : (Nat → Int32)) (vD5 : Int32) (vD6 : Int32) (vD7 : Int32) (vD8 : Int32) (vD9 : Int32) (vD10 : Int32) (vD11 : (Nat → Int32)) (vD12 : (Nat → Int32)) (vD13 : Int32) (vD14 : Int32) (vD15 : (Nat → Int32)) (vD16 : Int32) (vD17 : Int32) (vD18 : Int32) (vD19 : (Nat → Int32)) (vD20 : (Nat → Int32)) (vD21 : (Nat → Int32)) (vD22 : (Nat → Int32)) (i1 : Int32) (sz : Nat) {q : Int32 × Int32 × (Nat → Int32)} (h : pX10_type vD3 vD4 i1 = some q) : kMi l yX10_type wsX10_type ({ frames := 0, cells := 0, slots := 0, locals := 0 } : Room) D (kTy cI cC cS) [.ref aD.1, .int i1] (wMD cC cI aD vD0 vD1 vD2 vD3 vD4 vD5 vD6 vD7 vD8 vD9 vD10 vD11 vD12 vD13 vD14 vD15 vD16 vD17 vD18 vD19 vD20 vD21 vD22) sz q.1 (wMD cC cI aD vD0 vD1 vD2 q.2.1 q.2.2 vD5 vD6 vD7 vD8 vD9 vD10 vD11 vD12 vD13 vD14 vD15 vD16 vD17 vD18 vD19 vD20 vD21 vD22) := by
  refine Met.ofW (cc := cX10_type) (maxL := 2) (ret := (some .int)) (by decide) rfl ?_
  intro p e s m args below meth c s₁ B hml hv
  obtain ⟨rfl, hsz, hP, hK, hD0, hN⟩ := hv
  have hx := B.exec
  have hb := B.bytes
  have hr := B.returns
  have hts := atoms_spec (ws := wsX10_type) B.pre
  have hown : s.vm.findClass RX10 = some m.cls := findClass_of_methodNamed B.named
  have hlocks := B.notSynchronized
  subst hsz
  have hD := hD0.self (sz := s.heap.size)
  generalize hAe : va_A (wMD cC cI aD vD0 vD1 vD2 vD3 vD4 vD5 vD6 vD7 vD8 vD9 vD10 vD11 vD12 vD13 vD14 vD15 vD16 vD17 vD18 vD19 vD20 vD21 vD22) s.heap.size = A at hD ⊢
  have hA : ∀ q : Nat, s.heap.size ≤ q → A q := fun q h => by rw [← hAe]; exact Or.inr h
  have hS : va_S A s.heap s.heap [] := va_S.rf
  have huX10 : ∀ w ∈ u_ws RX10 TX10 23, w ∈ wsX10_type := by decide +kernel
  have hl := lv_entry ([.ref aD.1, .int i1]) (n := 2) (Nat.le_of_ble_eq_true rfl)
  rw [lg_entry_eq]
  generalize (lg_sl ([.ref aD.1, .int i1]) ++ List.replicate (2 - (lg_sl ([.ref aD.1, .int i1])).length) Slot.unset).toArray = ls at hl ⊢
  have hl : lv_has ls 2 [(0, .ref aD.1), (1, .int i1)] := hl
  unfold pX10_type at h
  refine lv_aload_n hx hb dX10_type_0 rfl (lv_at hl 0 rfl) ?_
  refine va_get (D := D) (ci := 10) (v := .int vD3) (C := RX10) (T := TX10) (N := 23) hx hb hts huX10 hown hK hP 0 rfl rfl 3 (by decide) (hts (.fieldLink RX10 100 "VerseColumnsModel" "typed" "I") (by decide +kernel)) (fun _ h9 => h9) rfl dX10_type_1 ?_
  refine lv_bipush (v := (80 : Int32)) hx hb dX10_type_4 (by decide) ?_
  refine lv_icmp_ne (tgt := 12) hx hb dX10_type_6 (by decide) (fun g => ?_) (fun g => ?_)
  · rw [if_neg g] at h
    refine lv_aload_n hx hb dX10_type_12 rfl (lv_at hl 0 rfl) ?_
    refine va_get (D := D) (ci := 10) (v := .ref aD.2.2.2.1) (C := RX10) (T := TX10) (N := 23) hx hb hts huX10 hown hK hP 0 rfl rfl 4 (by decide) (hts (.fieldLink RX10 16 "VerseColumnsModel" "text" "[C") (by decide +kernel)) (fun _ h9 => h9) rfl dX10_type_13 ?_
    refine lv_aload_n hx hb dX10_type_16 rfl (lv_at hl 0 rfl) ?_
    refine va_get (D := D) (ci := 10) (v := .int vD3) (C := RX10) (T := TX10) (N := 23) hx hb hts huX10 hown hK hP 0 rfl rfl 3 (by decide) (hts (.fieldLink RX10 100 "VerseColumnsModel" "typed" "I") (by decide +kernel)) (fun _ h9 => h9) rfl dX10_type_17 ?_
    refine lv_iload_n hx hb dX10_type_20 rfl (lv_at hl 1 rfl) ?_
    obtain ⟨g, h⟩ := kif h
    refine va_cast hx hb hK hP hD hS 3 1 rfl rfl (kin g) dX10_type_21 (fun H locs hP hD hS => ?_)
    have hP : va_P D vwCl (wMD cC cI aD vD0 vD1 vD2 vD3 (upd vD4 vD3.toNatClampNeg (vp_nar .char i1)) vD5 vD6 vD7 vD8 vD9 vD10 vD11 vD12 vD13 vD14 vD15 vD16 vD17 vD18 vD19 vD20 vD21 vD22) H := hP
    have hD : va_D A (wMD cC cI aD vD0 vD1 vD2 vD3 (upd vD4 vD3.toNatClampNeg (vp_nar .char i1)) vD5 vD6 vD7 vD8 vD9 vD10 vD11 vD12 vD13 vD14 vD15 vD16 vD17 vD18 vD19 vD20 vD21 vD22) := hD
    refine lv_aload_n hx hb dX10_type_22 rfl (lv_at hl 0 rfl) ?_
    refine lv_dup hx hb dX10_type_23 rfl ?_
    refine va_get (D := D) (ci := 10) (v := .int vD3) (C := RX10) (T := TX10) (N := 23) hx hb hts huX10 hown hK hP 0 rfl rfl 3 (by decide) (hts (.fieldLink RX10 100 "VerseColumnsModel" "typed" "I") (by decide +kernel)) (fun _ h9 => h9) rfl dX10_type_24 ?_
    refine lv_iconst (v := (1 : Int32)) hx hb dX10_type_27 (by decide) ?_
    refine lv_iadd hx hb dX10_type_28 ?_
    refine va_put (D := D) (ci := 10) (v := .int (vD3 + (1 : Int32))) (ty := .int) (C := RX10) (T := TX10) (N := 23) hx hb hts huX10 tyX10 tyX10_ok nmX10 hown hK hP hD hS 0 rfl rfl 3 (by decide) (hts (.fieldLink RX10 100 "VerseColumnsModel" "typed" "I") (by decide +kernel)) (fun _ h9 => h9) rfl (by decide +kernel) rfl rfl (Nat.le_of_ble_eq_true rfl) dX10_type_29 (fun H locs hP hD hS => ?_)
    have hP : va_P D vwCl (wMD cC cI aD vD0 vD1 vD2 (vD3 + (1 : Int32)) (upd vD4 vD3.toNatClampNeg (vp_nar .char i1)) vD5 vD6 vD7 vD8 vD9 vD10 vD11 vD12 vD13 vD14 vD15 vD16 vD17 vD18 vD19 vD20 vD21 vD22) H := hP
    have hD : va_D A (wMD cC cI aD vD0 vD1 vD2 (vD3 + (1 : Int32)) (upd vD4 vD3.toNatClampNeg (vp_nar .char i1)) vD5 vD6 vD7 vD8 vD9 vD10 vD11 vD12 vD13 vD14 vD15 vD16 vD17 vD18 vD19 vD20 vD21 vD22) := hD
    refine lv_aload_n hx hb dX10_type_32 rfl (lv_at hl 0 rfl) ?_
    refine va_get (D := D) (ci := 10) (v := .int (vD3 + (1 : Int32))) (C := RX10) (T := TX10) (N := 23) hx hb hts huX10 hown hK hP 0 rfl rfl 3 (by decide) (hts (.fieldLink RX10 100 "VerseColumnsModel" "typed" "I") (by decide +kernel)) (fun _ h9 => h9) rfl dX10_type_33 ?_
    obtain rfl := Option.some.inj h
    exact W.iret (v := (vD3 + (1 : Int32))) hx hb hr (fun t ht hW => ⟨⟨_, (), rfl, rfl, by rw [ht]; exact hP, hD⟩, hS.F ht⟩) hS.2.2 dX10_type_36
  · rw [if_pos g] at h
    refine lv_bipush (v := (-3 : Int32)) hx hb dX10_type_9 (by decide) ?_
    obtain rfl := Option.some.inj h
    exact W.iret (v := (-3 : Int32)) hx hb hr (fun t ht hW => ⟨⟨_, (), rfl, rfl, by rw [ht]; exact hP, hD⟩, hS.F ht⟩) hS.2.2 dX10_type_11
set_option maxHeartbeats 8000000 in
set_option maxRecDepth 100000 in
theorem kX10_clearText (l : Launch) (D : va_G) (cI cC cS : ClassId) (aD : Nat × Nat × Nat × Nat × Nat × Nat × Nat × Nat × Nat × Nat × Nat) (vD0 : (Nat → Int32)) (vD1 : (Nat → Int32)) (vD2 : Int32) (vD3 : Int32) (vD4 : (Nat → Int32)) (vD5 : Int32) (vD6 : Int32) (vD7 : Int32) (vD8 : Int32) (vD9 : Int32) (vD10 : Int32) (vD11 : (Nat → Int32)) (vD12 : (Nat → Int32)) (vD13 : Int32) (vD14 : Int32) (vD15 : (Nat → Int32)) (vD16 : Int32) (vD17 : Int32) (vD18 : Int32) (vD19 : (Nat → Int32)) (vD20 : (Nat → Int32)) (vD21 : (Nat → Int32)) (vD22 : (Nat → Int32)) (sz : Nat) {q : Int32 × Int32} (h : pX10_clearText vD3 = some q) : kMi l yX10_clearText wsX10_clearText ({ frames := 0, cells := 0, slots := 0, locals := 0 } : Room) D (kTy cI cC cS) [.ref aD.1] (wMD cC cI aD vD0 vD1 vD2 vD3 vD4 vD5 vD6 vD7 vD8 vD9 vD10 vD11 vD12 vD13 vD14 vD15 vD16 vD17 vD18 vD19 vD20 vD21 vD22) sz q.1 (wMD cC cI aD vD0 vD1 vD2 q.2 vD4 vD5 vD6 vD7 vD8 vD9 vD10 vD11 vD12 vD13 vD14 vD15 vD16 vD17 vD18 vD19 vD20 vD21 vD22) := by
  refine Met.ofW (cc := cX10_clearText) (maxL := 2) (ret := (some .int)) (by decide) rfl ?_
  intro p e s m args below meth c s₁ B hml hv
  obtain ⟨rfl, hsz, hP, hK, hD0, hN⟩ := hv
  have hx := B.exec
  have hb := B.bytes
  have hr := B.returns
  have hts := atoms_spec (ws := wsX10_clearText) B.pre
  have hown : s.vm.findClass RX10 = some m.cls := findClass_of_methodNamed B.named
  have hlocks := B.notSynchronized
  subst hsz
  have hD := hD0.self (sz := s.heap.size)
  generalize hAe : va_A (wMD cC cI aD vD0 vD1 vD2 vD3 vD4 vD5 vD6 vD7 vD8 vD9 vD10 vD11 vD12 vD13 vD14 vD15 vD16 vD17 vD18 vD19 vD20 vD21 vD22) s.heap.size = A at hD ⊢
  have hA : ∀ q : Nat, s.heap.size ≤ q → A q := fun q h => by rw [← hAe]; exact Or.inr h
  have hS : va_S A s.heap s.heap [] := va_S.rf
  have huX10 : ∀ w ∈ u_ws RX10 TX10 23, w ∈ wsX10_clearText := by decide +kernel
  have hl := lv_entry ([.ref aD.1]) (n := 2) (Nat.le_of_ble_eq_true rfl)
  rw [lg_entry_eq]
  generalize (lg_sl ([.ref aD.1]) ++ List.replicate (2 - (lg_sl ([.ref aD.1])).length) Slot.unset).toArray = ls at hl ⊢
  have hl : lv_has ls 2 [(0, .ref aD.1)] := hl
  unfold pX10_clearText at h
  refine lv_aload_n hx hb dX10_clearText_0 rfl (lv_at hl 0 rfl) ?_
  refine va_get (D := D) (ci := 10) (v := .int vD3) (C := RX10) (T := TX10) (N := 23) hx hb hts huX10 hown hK hP 0 rfl rfl 3 (by decide) (hts (.fieldLink RX10 100 "VerseColumnsModel" "typed" "I") (by decide +kernel)) (fun _ h9 => h9) rfl dX10_clearText_1 ?_
  refine lv_istore_n (lv' := [(1, .int vD3), (0, .ref aD.1)]) hx hb dX10_clearText_4 rfl hl (by decide) rfl (fun ls hl => ?_)
  refine lv_aload_n hx hb dX10_clearText_5 rfl (lv_at hl 1 rfl) ?_
  refine lv_iconst (v := (0 : Int32)) hx hb dX10_clearText_6 (by decide) ?_
  refine va_put (D := D) (ci := 10) (v := .int (0 : Int32)) (ty := .int) (C := RX10) (T := TX10) (N := 23) hx hb hts huX10 tyX10 tyX10_ok nmX10 hown hK hP hD hS 0 rfl rfl 3 (by decide) (hts (.fieldLink RX10 100 "VerseColumnsModel" "typed" "I") (by decide +kernel)) (fun _ h9 => h9) rfl (by decide +kernel) rfl rfl (Nat.le_of_ble_eq_true rfl) dX10_clearText_7 (fun H locs hP hD hS => ?_)
  have hP : va_P D vwCl (wMD cC cI aD vD0 vD1 vD2 (0 : Int32) vD4 vD5 vD6 vD7 vD8 vD9 vD10 vD11 vD12 vD13 vD14 vD15 vD16 vD17 vD18 vD19 vD20 vD21 vD22) H := hP
  have hD : va_D A (wMD cC cI aD vD0 vD1 vD2 (0 : Int32) vD4 vD5 vD6 vD7 vD8 vD9 vD10 vD11 vD12 vD13 vD14 vD15 vD16 vD17 vD18 vD19 vD20 vD21 vD22) := hD
  refine lv_iload_n hx hb dX10_clearText_10 rfl (lv_at hl 0 rfl) ?_
  obtain rfl := Option.some.inj h
  exact W.iret (v := vD3) hx hb hr (fun t ht hW => ⟨⟨_, (), rfl, rfl, by rw [ht]; exact hP, hD⟩, hS.F ht⟩) hS.2.2 dX10_clearText_11
set_option maxHeartbeats 8000000 in
set_option maxRecDepth 100000 in
theorem kX10_isAt (l : Launch) (D : va_G) (cI cC cS : ClassId) (aD : Nat × Nat × Nat × Nat × Nat × Nat × Nat × Nat × Nat × Nat × Nat) (vD0 : (Nat → Int32)) (vD1 : (Nat → Int32)) (vD2 : Int32) (vD3 : Int32) (vD4 : (Nat → Int32)) (vD5 : Int32) (vD6 : Int32) (vD7 : Int32) (vD8 : Int32) (vD9 : Int32) (vD10 : Int32) (vD11 : (Nat → Int32)) (vD12 : (Nat → Int32)) (vD13 : Int32) (vD14 : Int32) (vD15 : (Nat → Int32)) (vD16 : Int32) (vD17 : Int32) (vD18 : Int32) (vD19 : (Nat → Int32)) (vD20 : (Nat → Int32)) (vD21 : (Nat → Int32)) (vD22 : (Nat → Int32)) (i1 : Int32) (i2 : Int32) (sz : Nat) {q : Int32} (h : pX10_isAt vD3 vD4 vD5 i1 i2 = some q) : kMi l yX10_isAt wsX10_isAt ({ frames := 0, cells := 0, slots := 0, locals := 0 } : Room) D (kTy cI cC cS) [.ref aD.1, .int i1, .int i2] (wMD cC cI aD vD0 vD1 vD2 vD3 vD4 vD5 vD6 vD7 vD8 vD9 vD10 vD11 vD12 vD13 vD14 vD15 vD16 vD17 vD18 vD19 vD20 vD21 vD22) sz q (wMD cC cI aD vD0 vD1 vD2 vD3 vD4 vD5 vD6 vD7 vD8 vD9 vD10 vD11 vD12 vD13 vD14 vD15 vD16 vD17 vD18 vD19 vD20 vD21 vD22) := by
  refine Met.ofW (cc := cX10_isAt) (maxL := 3) (ret := (some .boolean)) (by decide) rfl ?_
  intro p e s m args below meth c s₁ B hml hv
  obtain ⟨rfl, hsz, hP, hK, hD0, hN⟩ := hv
  have hx := B.exec
  have hb := B.bytes
  have hr := B.returns
  have hts := atoms_spec (ws := wsX10_isAt) B.pre
  have hown : s.vm.findClass RX10 = some m.cls := findClass_of_methodNamed B.named
  have hlocks := B.notSynchronized
  subst hsz
  have hD := hD0.self (sz := s.heap.size)
  generalize hAe : va_A (wMD cC cI aD vD0 vD1 vD2 vD3 vD4 vD5 vD6 vD7 vD8 vD9 vD10 vD11 vD12 vD13 vD14 vD15 vD16 vD17 vD18 vD19 vD20 vD21 vD22) s.heap.size = A at hD ⊢
  have hA : ∀ q : Nat, s.heap.size ≤ q → A q := fun q h => by rw [← hAe]; exact Or.inr h
  have hS : va_S A s.heap s.heap [] := va_S.rf
  have huX10 : ∀ w ∈ u_ws RX10 TX10 23, w ∈ wsX10_isAt := by decide +kernel
  have hl := lv_entry ([.ref aD.1, .int i1, .int i2]) (n := 3) (Nat.le_of_ble_eq_true rfl)
  rw [lg_entry_eq]
  generalize (lg_sl ([.ref aD.1, .int i1, .int i2]) ++ List.replicate (3 - (lg_sl ([.ref aD.1, .int i1, .int i2])).length) Slot.unset).toArray = ls at hl ⊢
  have hl : lv_has ls 3 [(0, .ref aD.1), (1, .int i1), (2, .int i2)] := hl
  unfold pX10_isAt at h
  refine lv_aload_n hx hb dX10_isAt_0 rfl (lv_at hl 0 rfl) ?_
  refine va_get (D := D) (ci := 10) (v := .int vD5) (C := RX10) (T := TX10) (N := 23) hx hb hts huX10 hown hK hP 0 rfl rfl 5 (by decide) (hts (.fieldLink RX10 103 "VerseColumnsModel" "place" "I") (by decide +kernel)) (fun _ h9 => h9) rfl dX10_isAt_1 ?_
  refine lv_aload_n hx hb dX10_isAt_4 rfl (lv_at hl 0 rfl) ?_
  refine va_get (D := D) (ci := 10) (v := .int vD3) (C := RX10) (T := TX10) (N := 23) hx hb hts huX10 hown hK hP 0 rfl rfl 3 (by decide) (hts (.fieldLink RX10 100 "VerseColumnsModel" "typed" "I") (by decide +kernel)) (fun _ h9 => h9) rfl dX10_isAt_5 ?_
  refine lv_icmp_ge (tgt := 41) hx hb dX10_isAt_8 (by decide) (fun g => ?_) (fun g => ?_)
  · rw [if_pos g] at h
    refine lv_iconst (v := (0 : Int32)) hx hb dX10_isAt_41 (by decide) ?_
    obtain rfl := Option.some.inj h
    exact W.zret (v := (0 : Int32)) hx hb hr rfl (fun t ht hW => ⟨⟨_, (), rfl, rfl, by rw [ht]; exact hP, hD⟩, hS.F ht⟩) hS.2.2 dX10_isAt_42
  · rw [if_neg g] at h
    refine lv_aload_n hx hb dX10_isAt_11 rfl (lv_at hl 0 rfl) ?_
    refine va_get (D := D) (ci := 10) (v := .ref aD.2.2.2.1) (C := RX10) (T := TX10) (N := 23) hx hb hts huX10 hown hK hP 0 rfl rfl 4 (by decide) (hts (.fieldLink RX10 16 "VerseColumnsModel" "text" "[C") (by decide +kernel)) (fun _ h9 => h9) rfl dX10_isAt_12 ?_
    refine lv_aload_n hx hb dX10_isAt_15 rfl (lv_at hl 0 rfl) ?_
    refine va_get (D := D) (ci := 10) (v := .int vD5) (C := RX10) (T := TX10) (N := 23) hx hb hts huX10 hown hK hP 0 rfl rfl 5 (by decide) (hts (.fieldLink RX10 103 "VerseColumnsModel" "place" "I") (by decide +kernel)) (fun _ h9 => h9) rfl dX10_isAt_16 ?_
    obtain ⟨g, h⟩ := kif h
    refine va_cald hx hb hK hP 3 1 rfl rfl (kin g) dX10_isAt_19 ?_
    refine lv_iload_n hx hb dX10_isAt_20 rfl (lv_at hl 1 rfl) ?_
    refine lv_icmp_lt (tgt := 41) hx hb dX10_isAt_21 (by decide) (fun g => ?_) (fun g => ?_)
    · rw [if_pos g] at h
      refine lv_iconst (v := (0 : Int32)) hx hb dX10_isAt_41 (by decide) ?_
      obtain rfl := Option.some.inj h
      exact W.zret (v := (0 : Int32)) hx hb hr rfl (fun t ht hW => ⟨⟨_, (), rfl, rfl, by rw [ht]; exact hP, hD⟩, hS.F ht⟩) hS.2.2 dX10_isAt_42
    · rw [if_neg g] at h
      refine lv_aload_n hx hb dX10_isAt_24 rfl (lv_at hl 0 rfl) ?_
      refine va_get (D := D) (ci := 10) (v := .ref aD.2.2.2.1) (C := RX10) (T := TX10) (N := 23) hx hb hts huX10 hown hK hP 0 rfl rfl 4 (by decide) (hts (.fieldLink RX10 16 "VerseColumnsModel" "text" "[C") (by decide +kernel)) (fun _ h9 => h9) rfl dX10_isAt_25 ?_
      refine lv_aload_n hx hb dX10_isAt_28 rfl (lv_at hl 0 rfl) ?_
      refine va_get (D := D) (ci := 10) (v := .int vD5) (C := RX10) (T := TX10) (N := 23) hx hb hts huX10 hown hK hP 0 rfl rfl 5 (by decide) (hts (.fieldLink RX10 103 "VerseColumnsModel" "place" "I") (by decide +kernel)) (fun _ h9 => h9) rfl dX10_isAt_29 ?_
      obtain ⟨g, h⟩ := kif h
      refine va_cald hx hb hK hP 3 1 rfl rfl (kin g) dX10_isAt_32 ?_
      refine lv_iload_n hx hb dX10_isAt_33 rfl (lv_at hl 2 rfl) ?_
      refine lv_icmp_gt (tgt := 41) hx hb dX10_isAt_34 (by decide) (fun g => ?_) (fun g => ?_)
      · rw [if_pos g] at h
        refine lv_iconst (v := (0 : Int32)) hx hb dX10_isAt_41 (by decide) ?_
        obtain rfl := Option.some.inj h
        exact W.zret (v := (0 : Int32)) hx hb hr rfl (fun t ht hW => ⟨⟨_, (), rfl, rfl, by rw [ht]; exact hP, hD⟩, hS.F ht⟩) hS.2.2 dX10_isAt_42
      · rw [if_neg g] at h
        refine lv_iconst (v := (1 : Int32)) hx hb dX10_isAt_37 (by decide) ?_
        refine lv_goto (tgt := 42) hx hb dX10_isAt_38 (by decide) ?_
        obtain rfl := Option.some.inj h
        exact W.zret (v := (1 : Int32)) hx hb hr rfl (fun t ht hW => ⟨⟨_, (), rfl, rfl, by rw [ht]; exact hP, hD⟩, hS.F ht⟩) hS.2.2 dX10_isAt_42
set_option maxHeartbeats 8000000 in
set_option maxRecDepth 100000 in
theorem kX10_number (l : Launch) (D : va_G) (cI cC cS : ClassId) (aD : Nat × Nat × Nat × Nat × Nat × Nat × Nat × Nat × Nat × Nat × Nat) (vD0 : (Nat → Int32)) (vD1 : (Nat → Int32)) (vD2 : Int32) (vD3 : Int32) (vD4 : (Nat → Int32)) (vD5 : Int32) (vD6 : Int32) (vD7 : Int32) (vD8 : Int32) (vD9 : Int32) (vD10 : Int32) (vD11 : (Nat → Int32)) (vD12 : (Nat → Int32)) (vD13 : Int32) (vD14 : Int32) (vD15 : (Nat → Int32)) (vD16 : Int32) (vD17 : Int32) (vD18 : Int32) (vD19 : (Nat → Int32)) (vD20 : (Nat → Int32)) (vD21 : (Nat → Int32)) (vD22 : (Nat → Int32)) (sz : Nat) {q : Int32 × Int32 × Int32 × Int32} (h : pX10_number vD3 vD4 vD5 vD6 = some q) : kMi l yX10_number wsX10_number ({ frames := 1, cells := 0, slots := 0, locals := 22 } : Room) D (kTy cI cC cS) [.ref aD.1] (wMD cC cI aD vD0 vD1 vD2 vD3 vD4 vD5 vD6 vD7 vD8 vD9 vD10 vD11 vD12 vD13 vD14 vD15 vD16 vD17 vD18 vD19 vD20 vD21 vD22) sz q.1 (wMD cC cI aD vD0 vD1 vD2 vD3 vD4 q.2.1 q.2.2.1 q.2.2.2 vD8 vD9 vD10 vD11 vD12 vD13 vD14 vD15 vD16 vD17 vD18 vD19 vD20 vD21 vD22) := by
  refine Met.ofW (cc := cX10_number) (maxL := 2) (ret := (some .int)) (by decide) rfl ?_
  intro p e s m args below meth c s₁ B hml hv
  obtain ⟨rfl, hsz, hP, hK, hD0, hN⟩ := hv
  have hx := B.exec
  have hb := B.bytes
  have hr := B.returns
  have hts := atoms_spec (ws := wsX10_number) B.pre
  have hown : s.vm.findClass RX10 = some m.cls := findClass_of_methodNamed B.named
  have hlocks := B.notSynchronized
  subst hsz
  have hD := hD0.self (sz := s.heap.size)
  generalize hAe : va_A (wMD cC cI aD vD0 vD1 vD2 vD3 vD4 vD5 vD6 vD7 vD8 vD9 vD10 vD11 vD12 vD13 vD14 vD15 vD16 vD17 vD18 vD19 vD20 vD21 vD22) s.heap.size = A at hD ⊢
  have hA : ∀ q : Nat, s.heap.size ≤ q → A q := fun q h => by rw [← hAe]; exact Or.inr h
  have hS : va_S A s.heap s.heap [] := va_S.rf
  have huX10 : ∀ w ∈ u_ws RX10 TX10 23, w ∈ wsX10_number := by decide +kernel
  have hl := lv_entry ([.ref aD.1]) (n := 2) (Nat.le_of_ble_eq_true rfl)
  rw [lg_entry_eq]
  generalize (lg_sl ([.ref aD.1]) ++ List.replicate (2 - (lg_sl ([.ref aD.1])).length) Slot.unset).toArray = ls at hl ⊢
  have hl : lv_has ls 2 [(0, .ref aD.1)] := hl
  have j88 : ∀ (c0_5 : Int32) (c0_6 : Int32) (c0_7 : Int32) (y1 : Int32) (H : Heap) (locs : List Loc) (ls : Array Slot), pX10_number_j88 vD3 vD4 c0_5 c0_6 c0_7 y1 = some q → va_P D vwCl (wMD cC cI aD vD0 vD1 vD2 vD3 vD4 c0_5 c0_6 c0_7 vD8 vD9 vD10 vD11 vD12 vD13 vD14 vD15 vD16 vD17 vD18 vD19 vD20 vD21 vD22) H → va_D A (wMD cC cI aD vD0 vD1 vD2 vD3 vD4 c0_5 c0_6 c0_7 vD8 vD9 vD10 vD11 vD12 vD13 vD14 vD15 vD16 vD17 vD18 vD19 vD20 vD21 vD22) → va_S A s.heap H locs → lv_has ls 2 [(0, .ref aD.1), (1, .int y1)] → W p l e ({ frames := 1, cells := 0, slots := 0, locals := 22 } : Room) s m ([.ref aD.1] : List Value).toArray below meth c H locs 0 0 (MQ below (va_Qi (fun (r : Int32) (_ : Unit) => r = q.1) (fun _ => kPost D (wMD cC cI aD vD0 vD1 vD2 vD3 vD4 q.2.1 q.2.2.1 q.2.2.2 vD8 vD9 vD10 vD11 vD12 vD13 vD14 vD15 vD16 vD17 vD18 vD19 vD20 vD21 vD22) A) A) ([.ref aD.1] : List Value).toArray s 0 0 A) (F0 m 88 ls []) := by
    clear h hP hD hS hl
    intro c0_5 c0_6 c0_7 y1 H locs ls h hP hD hS hl
    unfold pX10_number_j88 at h
    refine lv_aload_n hx hb dX10_number_88 rfl (lv_at hl 0 rfl) ?_
    refine lv_aload_n hx hb dX10_number_89 rfl (lv_at hl 0 rfl) ?_
    refine va_get (D := D) (ci := 10) (v := .int c0_6) (C := RX10) (T := TX10) (N := 23) hx hb hts huX10 hown hK hP 0 rfl rfl 6 (by decide) (hts (.fieldLink RX10 109 "VerseColumnsModel" "isGood" "Z") (by decide +kernel)) (fun _ h9 => h9) rfl dX10_number_90 ?_
    refine lv_if_eq (tgt := 122) hx hb dX10_number_93 (by decide) (fun g => ?_) (fun g => ?_)
    · rw [if_pos g] at h
      refine lv_iconst (v := (0 : Int32)) hx hb dX10_number_122 (by decide) ?_
      refine va_put (D := D) (ci := 10) (v := .int (0 : Int32)) (ty := .boolean) (C := RX10) (T := TX10) (N := 23) hx hb hts huX10 tyX10 tyX10_ok nmX10 hown hK hP hD hS 0 rfl rfl 6 (by decide) (hts (.fieldLink RX10 109 "VerseColumnsModel" "isGood" "Z") (by decide +kernel)) (fun _ h9 => h9) rfl (by decide +kernel) rfl rfl (Nat.le_of_ble_eq_true rfl) dX10_number_123 (fun H locs hP hD hS => ?_)
      have hP : va_P D vwCl (wMD cC cI aD vD0 vD1 vD2 vD3 vD4 c0_5 (0 : Int32) c0_7 vD8 vD9 vD10 vD11 vD12 vD13 vD14 vD15 vD16 vD17 vD18 vD19 vD20 vD21 vD22) H := hP
      have hD : va_D A (wMD cC cI aD vD0 vD1 vD2 vD3 vD4 c0_5 (0 : Int32) c0_7 vD8 vD9 vD10 vD11 vD12 vD13 vD14 vD15 vD16 vD17 vD18 vD19 vD20 vD21 vD22) := hD
      refine lv_iload_n hx hb dX10_number_126 rfl (lv_at hl 1 rfl) ?_
      obtain rfl := Option.some.inj h
      exact W.iret (v := y1) hx hb hr (fun t ht hW => ⟨⟨_, (), rfl, rfl, by rw [ht]; exact hP, hD⟩, hS.F ht⟩) hS.2.2 dX10_number_127
    · rw [if_neg g] at h
      refine lv_aload_n hx hb dX10_number_96 rfl (lv_at hl 0 rfl) ?_
      refine va_get (D := D) (ci := 10) (v := .int c0_5) (C := RX10) (T := TX10) (N := 23) hx hb hts huX10 hown hK hP 0 rfl rfl 5 (by decide) (hts (.fieldLink RX10 103 "VerseColumnsModel" "place" "I") (by decide +kernel)) (fun _ h9 => h9) rfl dX10_number_97 ?_
      refine lv_aload_n hx hb dX10_number_100 rfl (lv_at hl 0 rfl) ?_
      refine va_get (D := D) (ci := 10) (v := .int c0_7) (C := RX10) (T := TX10) (N := 23) hx hb hts huX10 hown hK hP 0 rfl rfl 7 (by decide) (hts (.fieldLink RX10 106 "VerseColumnsModel" "numberAt" "I") (by decide +kernel)) (fun _ h9 => h9) rfl dX10_number_101 ?_
      refine lv_icmp_le (tgt := 122) hx hb dX10_number_104 (by decide) (fun g => ?_) (fun g => ?_)
      · rw [if_pos g] at h
        refine lv_iconst (v := (0 : Int32)) hx hb dX10_number_122 (by decide) ?_
        refine va_put (D := D) (ci := 10) (v := .int (0 : Int32)) (ty := .boolean) (C := RX10) (T := TX10) (N := 23) hx hb hts huX10 tyX10 tyX10_ok nmX10 hown hK hP hD hS 0 rfl rfl 6 (by decide) (hts (.fieldLink RX10 109 "VerseColumnsModel" "isGood" "Z") (by decide +kernel)) (fun _ h9 => h9) rfl (by decide +kernel) rfl rfl (Nat.le_of_ble_eq_true rfl) dX10_number_123 (fun H locs hP hD hS => ?_)
        have hP : va_P D vwCl (wMD cC cI aD vD0 vD1 vD2 vD3 vD4 c0_5 (0 : Int32) c0_7 vD8 vD9 vD10 vD11 vD12 vD13 vD14 vD15 vD16 vD17 vD18 vD19 vD20 vD21 vD22) H := hP
        have hD : va_D A (wMD cC cI aD vD0 vD1 vD2 vD3 vD4 c0_5 (0 : Int32) c0_7 vD8 vD9 vD10 vD11 vD12 vD13 vD14 vD15 vD16 vD17 vD18 vD19 vD20 vD21 vD22) := hD
        refine lv_iload_n hx hb dX10_number_126 rfl (lv_at hl 1 rfl) ?_
        obtain rfl := Option.some.inj h
        exact W.iret (v := y1) hx hb hr (fun t ht hW => ⟨⟨_, (), rfl, rfl, by rw [ht]; exact hP, hD⟩, hS.F ht⟩) hS.2.2 dX10_number_127
      · rw [if_neg g] at h
        refine lv_aload_n hx hb dX10_number_107 rfl (lv_at hl 0 rfl) ?_
        refine lv_bipush (v := (48 : Int32)) hx hb dX10_number_108 (by decide) ?_
        refine lv_bipush (v := (57 : Int32)) hx hb dX10_number_110 (by decide) ?_
        obtain ⟨q2, h1, h⟩ := Option.bind_eq_some_iff.mp h
        refine kcir [0, 1, 2, 3, 4, 5, 6, 7, 8, 9, 10] (va_runV (As := [.int (48 : Int32), .int (57 : Int32)]) (rest := [.ref aD.1]) ⟨hx, hb, hml, hown, hts⟩ (kX10_isAt l D cI cC cS aD vD0 vD1 vD2 vD3 vD4 c0_5 c0_6 c0_7 vD8 vD9 vD10 vD11 vD12 vD13 vD14 vD15 vD16 vD17 vD18 vD19 vD20 vD21 vD22 (48 : Int32) (57 : Int32) H.size h1) (cwV 2 hts gX10_number_X10_isAt rfl rfl rfl (by decide +kernel) ⟨Nat.le_of_ble_eq_true rfl, Nat.le_of_ble_eq_true rfl⟩) (kpreV hK hN hP hD [0, 1, 2, 3, 4, 5, 6, 7, 8, 9, 10] rfl (by decide) 10 rfl rfl) rfl rfl hl.1 rfl (lv_room (Nat.le_of_ble_eq_true rfl)) dX10_number_112 ⟨Nat.le_refl _, Nat.le_refl _⟩) hP hD hS hA rfl (fun H locs hP hS => ?_)
        refine lv_if_ne (tgt := 122) hx hb dX10_number_115 (by decide) (fun g => ?_) (fun g => ?_)
        · rw [if_neg g] at h
          refine lv_iconst (v := (0 : Int32)) hx hb dX10_number_122 (by decide) ?_
          refine va_put (D := D) (ci := 10) (v := .int (0 : Int32)) (ty := .boolean) (C := RX10) (T := TX10) (N := 23) hx hb hts huX10 tyX10 tyX10_ok nmX10 hown hK hP hD hS 0 rfl rfl 6 (by decide) (hts (.fieldLink RX10 109 "VerseColumnsModel" "isGood" "Z") (by decide +kernel)) (fun _ h9 => h9) rfl (by decide +kernel) rfl rfl (Nat.le_of_ble_eq_true rfl) dX10_number_123 (fun H locs hP hD hS => ?_)
          have hP : va_P D vwCl (wMD cC cI aD vD0 vD1 vD2 vD3 vD4 c0_5 (0 : Int32) c0_7 vD8 vD9 vD10 vD11 vD12 vD13 vD14 vD15 vD16 vD17 vD18 vD19 vD20 vD21 vD22) H := hP
          have hD : va_D A (wMD cC cI aD vD0 vD1 vD2 vD3 vD4 c0_5 (0 : Int32) c0_7 vD8 vD9 vD10 vD11 vD12 vD13 vD14 vD15 vD16 vD17 vD18 vD19 vD20 vD21 vD22) := hD
          refine lv_iload_n hx hb dX10_number_126 rfl (lv_at hl 1 rfl) ?_
          obtain rfl := Option.some.inj h
          exact W.iret (v := y1) hx hb hr (fun t ht hW => ⟨⟨_, (), rfl, rfl, by rw [ht]; exact hP, hD⟩, hS.F ht⟩) hS.2.2 dX10_number_127
        · rw [if_pos g] at h
          refine lv_iconst (v := (1 : Int32)) hx hb dX10_number_118 (by decide) ?_
          refine lv_goto (tgt := 123) hx hb dX10_number_119 (by decide) ?_
          refine va_put (D := D) (ci := 10) (v := .int (1 : Int32)) (ty := .boolean) (C := RX10) (T := TX10) (N := 23) hx hb hts huX10 tyX10 tyX10_ok nmX10 hown hK hP hD hS 0 rfl rfl 6 (by decide) (hts (.fieldLink RX10 109 "VerseColumnsModel" "isGood" "Z") (by decide +kernel)) (fun _ h9 => h9) rfl (by decide +kernel) rfl rfl (Nat.le_of_ble_eq_true rfl) dX10_number_123 (fun H locs hP hD hS => ?_)
          have hP : va_P D vwCl (wMD cC cI aD vD0 vD1 vD2 vD3 vD4 c0_5 (1 : Int32) c0_7 vD8 vD9 vD10 vD11 vD12 vD13 vD14 vD15 vD16 vD17 vD18 vD19 vD20 vD21 vD22) H := hP
          have hD : va_D A (wMD cC cI aD vD0 vD1 vD2 vD3 vD4 c0_5 (1 : Int32) c0_7 vD8 vD9 vD10 vD11 vD12 vD13 vD14 vD15 vD16 vD17 vD18 vD19 vD20 vD21 vD22) := hD
          refine lv_iload_n hx hb dX10_number_126 rfl (lv_at hl 1 rfl) ?_
          obtain rfl := Option.some.inj h
          exact W.iret (v := y1) hx hb hr (fun t ht hW => ⟨⟨_, (), rfl, rfl, by rw [ht]; exact hP, hD⟩, hS.F ht⟩) hS.2.2 dX10_number_127
  have L10 : ∀ (nL10 : Nat) (c0_5 : Int32) (c0_6 : Int32) (c0_7 : Int32) (y1 : Int32) (H : Heap) (locs : List Loc) (ls : Array Slot), pX10_number_L10 vD3 vD4 nL10 c0_5 c0_6 c0_7 y1 = some q → va_P D vwCl (wMD cC cI aD vD0 vD1 vD2 vD3 vD4 c0_5 c0_6 c0_7 vD8 vD9 vD10 vD11 vD12 vD13 vD14 vD15 vD16 vD17 vD18 vD19 vD20 vD21 vD22) H → va_D A (wMD cC cI aD vD0 vD1 vD2 vD3 vD4 c0_5 c0_6 c0_7 vD8 vD9 vD10 vD11 vD12 vD13 vD14 vD15 vD16 vD17 vD18 vD19 vD20 vD21 vD22) → va_S A s.heap H locs → lv_has ls 2 [(0, .ref aD.1), (1, .int y1)] → W p l e ({ frames := 1, cells := 0, slots := 0, locals := 22 } : Room) s m ([.ref aD.1] : List Value).toArray below meth c H locs 0 0 (MQ below (va_Qi (fun (r : Int32) (_ : Unit) => r = q.1) (fun _ => kPost D (wMD cC cI aD vD0 vD1 vD2 vD3 vD4 q.2.1 q.2.2.1 q.2.2.2 vD8 vD9 vD10 vD11 vD12 vD13 vD14 vD15 vD16 vD17 vD18 vD19 vD20 vD21 vD22) A) A) ([.ref aD.1] : List Value).toArray s 0 0 A) (F0 m 10 ls []) := by
    clear h hP hD hS hl
    intro nL10
    induction nL10 with
    | zero => intro c0_5 c0_6 c0_7 y1 H locs ls h; have h : (none : Option (Int32 × Int32 × Int32 × Int32)) = some q := h; cases h
    | succ nL10 ihL10 =>
      have j49 : ∀ (c0_5 : Int32) (c0_6 : Int32) (c0_7 : Int32) (y1 : Int32) (t1 : Int32) (H : Heap) (locs : List Loc) (ls : Array Slot), pX10_number_j49 vD3 vD4 (pX10_number_L10 vD3 vD4 nL10) c0_5 c0_6 c0_7 y1 t1 = some q → va_P D vwCl (wMD cC cI aD vD0 vD1 vD2 vD3 vD4 c0_5 c0_6 c0_7 vD8 vD9 vD10 vD11 vD12 vD13 vD14 vD15 vD16 vD17 vD18 vD19 vD20 vD21 vD22) H → va_D A (wMD cC cI aD vD0 vD1 vD2 vD3 vD4 c0_5 c0_6 c0_7 vD8 vD9 vD10 vD11 vD12 vD13 vD14 vD15 vD16 vD17 vD18 vD19 vD20 vD21 vD22) → va_S A s.heap H locs → lv_has ls 2 [(0, .ref aD.1), (1, .int y1)] → W p l e ({ frames := 1, cells := 0, slots := 0, locals := 22 } : Room) s m ([.ref aD.1] : List Value).toArray below meth c H locs 0 0 (MQ below (va_Qi (fun (r : Int32) (_ : Unit) => r = q.1) (fun _ => kPost D (wMD cC cI aD vD0 vD1 vD2 vD3 vD4 q.2.1 q.2.2.1 q.2.2.2 vD8 vD9 vD10 vD11 vD12 vD13 vD14 vD15 vD16 vD17 vD18 vD19 vD20 vD21 vD22) A) A) ([.ref aD.1] : List Value).toArray s 0 0 A) (F0 m 49 ls [.int t1, .ref aD.1]) := by
        skip
        intro c0_5 c0_6 c0_7 y1 t1 H locs ls h hP hD hS hl
        unfold pX10_number_j49 at h
        refine lv_bipush (v := (57 : Int32)) hx hb dX10_number_49 (by decide) ?_
        obtain ⟨q4, h3, h⟩ := Option.bind_eq_some_iff.mp h
        refine kcir [0, 1, 2, 3, 4, 5, 6, 7, 8, 9, 10] (va_runV (As := [.int t1, .int (57 : Int32)]) (rest := []) ⟨hx, hb, hml, hown, hts⟩ (kX10_isAt l D cI cC cS aD vD0 vD1 vD2 vD3 vD4 c0_5 c0_6 c0_7 vD8 vD9 vD10 vD11 vD12 vD13 vD14 vD15 vD16 vD17 vD18 vD19 vD20 vD21 vD22 t1 (57 : Int32) H.size h3) (cwV 2 hts gX10_number_X10_isAt rfl rfl rfl (by decide +kernel) ⟨Nat.le_of_ble_eq_true rfl, Nat.le_of_ble_eq_true rfl⟩) (kpreV hK hN hP hD [0, 1, 2, 3, 4, 5, 6, 7, 8, 9, 10] rfl (by decide) 10 rfl rfl) rfl rfl hl.1 rfl (lv_room (Nat.le_of_ble_eq_true rfl)) dX10_number_51 ⟨Nat.le_refl _, Nat.le_refl _⟩) hP hD hS hA rfl (fun H locs hP hS => ?_)
        refine lv_if_eq (tgt := 88) hx hb dX10_number_54 (by decide) (fun g => ?_) (fun g => ?_)
        · rw [if_pos g] at h
          exact j88 c0_5 c0_6 c0_7 y1 _ _ _ h hP hD hS (lv_sub hl [0, 1] rfl)
        · rw [if_neg g] at h
          refine lv_bipush (v := (10 : Int32)) hx hb dX10_number_57 (by decide) ?_
          refine lv_iload_n hx hb dX10_number_59 rfl (lv_at hl 1 rfl) ?_
          refine lv_imul hx hb dX10_number_60 ?_
          refine lv_aload_n hx hb dX10_number_61 rfl (lv_at hl 0 rfl) ?_
          refine va_get (D := D) (ci := 10) (v := .ref aD.2.2.2.1) (C := RX10) (T := TX10) (N := 23) hx hb hts huX10 hown hK hP 0 rfl rfl 4 (by decide) (hts (.fieldLink RX10 16 "VerseColumnsModel" "text" "[C") (by decide +kernel)) (fun _ h9 => h9) rfl dX10_number_62 ?_
          refine lv_aload_n hx hb dX10_number_65 rfl (lv_at hl 0 rfl) ?_
          refine va_get (D := D) (ci := 10) (v := .int c0_5) (C := RX10) (T := TX10) (N := 23) hx hb hts huX10 hown hK hP 0 rfl rfl 5 (by decide) (hts (.fieldLink RX10 103 "VerseColumnsModel" "place" "I") (by decide +kernel)) (fun _ h9 => h9) rfl dX10_number_66 ?_
          obtain ⟨g, h⟩ := kif h
          refine va_cald hx hb hK hP 3 1 rfl rfl (kin g) dX10_number_69 ?_
          refine lv_iadd hx hb dX10_number_70 ?_
          refine lv_bipush (v := (48 : Int32)) hx hb dX10_number_71 (by decide) ?_
          refine lv_isub hx hb dX10_number_73 ?_
          refine lv_istore_n (lv' := [(1, .int ((((10 : Int32) * y1) + (vD4 c0_5.toNatClampNeg)) - (48 : Int32))), (0, .ref aD.1)]) hx hb dX10_number_74 rfl hl (by decide) rfl (fun ls hl => ?_)
          refine lv_aload_n hx hb dX10_number_75 rfl (lv_at hl 1 rfl) ?_
          refine lv_dup hx hb dX10_number_76 rfl ?_
          refine va_get (D := D) (ci := 10) (v := .int c0_5) (C := RX10) (T := TX10) (N := 23) hx hb hts huX10 hown hK hP 0 rfl rfl 5 (by decide) (hts (.fieldLink RX10 103 "VerseColumnsModel" "place" "I") (by decide +kernel)) (fun _ h9 => h9) rfl dX10_number_77 ?_
          refine lv_iconst (v := (1 : Int32)) hx hb dX10_number_80 (by decide) ?_
          refine lv_iadd hx hb dX10_number_81 ?_
          refine va_put (D := D) (ci := 10) (v := .int (c0_5 + (1 : Int32))) (ty := .int) (C := RX10) (T := TX10) (N := 23) hx hb hts huX10 tyX10 tyX10_ok nmX10 hown hK hP hD hS 0 rfl rfl 5 (by decide) (hts (.fieldLink RX10 103 "VerseColumnsModel" "place" "I") (by decide +kernel)) (fun _ h9 => h9) rfl (by decide +kernel) rfl rfl (Nat.le_of_ble_eq_true rfl) dX10_number_82 (fun H locs hP hD hS => ?_)
          have hP : va_P D vwCl (wMD cC cI aD vD0 vD1 vD2 vD3 vD4 (c0_5 + (1 : Int32)) c0_6 c0_7 vD8 vD9 vD10 vD11 vD12 vD13 vD14 vD15 vD16 vD17 vD18 vD19 vD20 vD21 vD22) H := hP
          have hD : va_D A (wMD cC cI aD vD0 vD1 vD2 vD3 vD4 (c0_5 + (1 : Int32)) c0_6 c0_7 vD8 vD9 vD10 vD11 vD12 vD13 vD14 vD15 vD16 vD17 vD18 vD19 vD20 vD21 vD22) := hD
          refine lv_goto (tgt := 10) hx hb dX10_number_85 (by decide) ?_
          exact ihL10 (c0_5 + (1 : Int32)) c0_6 c0_7 ((((10 : Int32) * y1) + (vD4 c0_5.toNatClampNeg)) - (48 : Int32)) _ _ _ h hP hD hS (lv_sub hl [1, 0] rfl)
      intro c0_5 c0_6 c0_7 y1 H locs ls h hP hD hS hl
      have h : pX10_number_bL10 vD3 vD4 (pX10_number_L10 vD3 vD4 nL10) c0_5 c0_6 c0_7 y1 = some q := h
      unfold pX10_number_bL10 at h
      refine lv_aload_n hx hb dX10_number_10 rfl (lv_at hl 0 rfl) ?_
      refine va_get (D := D) (ci := 10) (v := .int c0_6) (C := RX10) (T := TX10) (N := 23) hx hb hts huX10 hown hK hP 0 rfl rfl 6 (by decide) (hts (.fieldLink RX10 109 "VerseColumnsModel" "isGood" "Z") (by decide +kernel)) (fun _ h9 => h9) rfl dX10_number_11 ?_
      refine lv_if_eq (tgt := 88) hx hb dX10_number_14 (by decide) (fun g => ?_) (fun g => ?_)
      · rw [if_pos g] at h
        exact j88 c0_5 c0_6 c0_7 y1 _ _ _ h hP hD hS (lv_sub hl [0, 1] rfl)
      · rw [if_neg g] at h
        refine lv_aload_n hx hb dX10_number_17 rfl (lv_at hl 0 rfl) ?_
        refine va_get (D := D) (ci := 10) (v := .int c0_5) (C := RX10) (T := TX10) (N := 23) hx hb hts huX10 hown hK hP 0 rfl rfl 5 (by decide) (hts (.fieldLink RX10 103 "VerseColumnsModel" "place" "I") (by decide +kernel)) (fun _ h9 => h9) rfl dX10_number_18 ?_
        refine lv_aload_n hx hb dX10_number_21 rfl (lv_at hl 0 rfl) ?_
        refine va_get (D := D) (ci := 10) (v := .int c0_7) (C := RX10) (T := TX10) (N := 23) hx hb hts huX10 hown hK hP 0 rfl rfl 7 (by decide) (hts (.fieldLink RX10 106 "VerseColumnsModel" "numberAt" "I") (by decide +kernel)) (fun _ h9 => h9) rfl dX10_number_22 ?_
        refine lv_iconst (v := (2 : Int32)) hx hb dX10_number_25 (by decide) ?_
        refine lv_iadd hx hb dX10_number_26 ?_
        refine lv_icmp_ge (tgt := 88) hx hb dX10_number_27 (by decide) (fun g => ?_) (fun g => ?_)
        · rw [if_pos g] at h
          exact j88 c0_5 c0_6 c0_7 y1 _ _ _ h hP hD hS (lv_sub hl [0, 1] rfl)
        · rw [if_neg g] at h
          refine lv_aload_n hx hb dX10_number_30 rfl (lv_at hl 0 rfl) ?_
          refine lv_aload_n hx hb dX10_number_31 rfl (lv_at hl 0 rfl) ?_
          refine va_get (D := D) (ci := 10) (v := .int c0_5) (C := RX10) (T := TX10) (N := 23) hx hb hts huX10 hown hK hP 0 rfl rfl 5 (by decide) (hts (.fieldLink RX10 103 "VerseColumnsModel" "place" "I") (by decide +kernel)) (fun _ h9 => h9) rfl dX10_number_32 ?_
          refine lv_aload_n hx hb dX10_number_35 rfl (lv_at hl 0 rfl) ?_
          refine va_get (D := D) (ci := 10) (v := .int c0_7) (C := RX10) (T := TX10) (N := 23) hx hb hts huX10 hown hK hP 0 rfl rfl 7 (by decide) (hts (.fieldLink RX10 106 "VerseColumnsModel" "numberAt" "I") (by decide +kernel)) (fun _ h9 => h9) rfl dX10_number_36 ?_
          refine lv_icmp_ne (tgt := 47) hx hb dX10_number_39 (by decide) (fun g => ?_) (fun g => ?_)
          · rw [if_neg g] at h
            refine lv_bipush (v := (48 : Int32)) hx hb dX10_number_47 (by decide) ?_
            exact j49 c0_5 c0_6 c0_7 y1 (48 : Int32) _ _ _ h hP hD hS (lv_sub hl [0, 1] rfl)
          · rw [if_pos g] at h
            refine lv_bipush (v := (49 : Int32)) hx hb dX10_number_42 (by decide) ?_
            refine lv_goto (tgt := 49) hx hb dX10_number_44 (by decide) ?_
            exact j49 c0_5 c0_6 c0_7 y1 (49 : Int32) _ _ _ h hP hD hS (lv_sub hl [0, 1] rfl)
  unfold pX10_number at h
  refine lv_aload_n hx hb dX10_number_0 rfl (lv_at hl 0 rfl) ?_
  refine lv_aload_n hx hb dX10_number_1 rfl (lv_at hl 0 rfl) ?_
  refine va_get (D := D) (ci := 10) (v := .int vD5) (C := RX10) (T := TX10) (N := 23) hx hb hts huX10 hown hK hP 0 rfl rfl 5 (by decide) (hts (.fieldLink RX10 103 "VerseColumnsModel" "place" "I") (by decide +kernel)) (fun _ h9 => h9) rfl dX10_number_2 ?_
  refine va_put (D := D) (ci := 10) (v := .int vD5) (ty := .int) (C := RX10) (T := TX10) (N := 23) hx hb hts huX10 tyX10 tyX10_ok nmX10 hown hK hP hD hS 0 rfl rfl 7 (by decide) (hts (.fieldLink RX10 106 "VerseColumnsModel" "numberAt" "I") (by decide +kernel)) (fun _ h9 => h9) rfl (by decide +kernel) rfl rfl (Nat.le_of_ble_eq_true rfl) dX10_number_5 (fun H locs hP hD hS => ?_)
  have hP : va_P D vwCl (wMD cC cI aD vD0 vD1 vD2 vD3 vD4 vD5 vD6 vD5 vD8 vD9 vD10 vD11 vD12 vD13 vD14 vD15 vD16 vD17 vD18 vD19 vD20 vD21 vD22) H := hP
  have hD : va_D A (wMD cC cI aD vD0 vD1 vD2 vD3 vD4 vD5 vD6 vD5 vD8 vD9 vD10 vD11 vD12 vD13 vD14 vD15 vD16 vD17 vD18 vD19 vD20 vD21 vD22) := hD
  refine lv_iconst (v := (0 : Int32)) hx hb dX10_number_8 (by decide) ?_
  refine lv_istore_n (lv' := [(1, .int (0 : Int32)), (0, .ref aD.1)]) hx hb dX10_number_9 rfl hl (by decide) rfl (fun ls hl => ?_)
  exact L10 4000 vD5 vD6 vD5 (0 : Int32) _ _ _ h hP hD hS (lv_sub hl [1, 0] rfl)
