-- walks: ref (printed by wip/whole/gen)
set_option maxHeartbeats 8000000 in
set_option maxRecDepth 100000 in
theorem kX10_readMap (l : Launch) (D : va_G) (cI cC cS : ClassId) (aD : Nat × Nat × Nat × Nat × Nat × Nat × Nat × Nat × Nat × Nat × Nat) (vD0 : (Nat → Int32)) (vD1 : (Nat → Int32)) (vD2 : Int32) (vD3 : Int32) (vD4 : (Nat → Int32)) (vD5 : Int32) (vD6 : Int32) (vD7 : Int32) (vD8 : Int32) (vD9 : Int32) (vD10 : Int32) (vD11 : (Nat → Int32)) (vD12 : (Nat → Int32)) (vD13 : Int32) (vD14 : Int32) (vD15 : (Nat → Int32)) (vD16 : Int32) (vD17 : Int32) (vD18 : Int32) (vD19 : (Nat → Int32)) (vD20 : (Nat → Int32)) (vD21 : (Nat → Int32)) (vD22 : (Nat → Int32)) (sz : Nat) {q : Int32 × (Nat → Int32) × (Nat → Int32) × Int32 × Int32 × Int32 × Int32 × Int32 × Int32 × Int32 × (Nat → Int32) × (Nat → Int32)} (h : pX10_readMap vD0 vD1 vD2 vD3 vD4 vD11 vD12 = some q) : kMi l yX10_readMap wsX10_readMap ({ frames := 3, cells := 0, slots := 0, locals := 67 } : Room) D (kTy cI cC cS) [.ref aD.1] (wMD cC cI aD vD0 vD1 vD2 vD3 vD4 vD5 vD6 vD7 vD8 vD9 vD10 vD11 vD12 vD13 vD14 vD15 vD16 vD17 vD18 vD19 vD20 vD21 vD22) sz q.1 (wMD cC cI aD q.2.1 q.2.2.1 q.2.2.2.1 vD3 vD4 q.2.2.2.2.1 q.2.2.2.2.2.1 q.2.2.2.2.2.2.1 q.2.2.2.2.2.2.2.1 q.2.2.2.2.2.2.2.2.1 q.2.2.2.2.2.2.2.2.2.1 q.2.2.2.2.2.2.2.2.2.2.1 q.2.2.2.2.2.2.2.2.2.2.2 vD13 vD14 vD15 vD16 vD17 vD18 vD19 vD20 vD21 vD22) := by
  refine Met.ofW (cc := cX10_readMap) (maxL := 2) (ret := (some .int)) (by decide) rfl ?_
  intro p e s m args below meth c s₁ B hml hv
  obtain ⟨rfl, hsz, hP, hK, hD0, hN⟩ := hv
  have hx := B.exec
  have hb := B.bytes
  have hr := B.returns
  have hts := atoms_spec (ws := wsX10_readMap) B.pre
  have hown : s.vm.findClass RX10 = some m.cls := findClass_of_methodNamed B.named
  have hlocks := B.notSynchronized
  subst hsz
  have hD := hD0.self (sz := s.heap.size)
  generalize hAe : va_A (wMD cC cI aD vD0 vD1 vD2 vD3 vD4 vD5 vD6 vD7 vD8 vD9 vD10 vD11 vD12 vD13 vD14 vD15 vD16 vD17 vD18 vD19 vD20 vD21 vD22) s.heap.size = A at hD ⊢
  have hA : ∀ q : Nat, s.heap.size ≤ q → A q := fun q h => by rw [← hAe]; exact Or.inr h
  have hS : va_S A s.heap s.heap [] := va_S.rf
  have huX10 : ∀ w ∈ u_ws RX10 TX10 23, w ∈ wsX10_readMap := by decide +kernel
  have hl := lv_entry ([.ref aD.1]) (n := 2) (Nat.le_of_ble_eq_true rfl)
  rw [lg_entry_eq]
  generalize (lg_sl ([.ref aD.1]) ++ List.replicate (2 - (lg_sl ([.ref aD.1])).length) Slot.unset).toArray = ls at hl ⊢
  have hl : lv_has ls 2 [(0, .ref aD.1)] := hl
  have L125 : ∀ (nL125 : Nat) (c0_0 : (Nat → Int32)) (c0_1 : (Nat → Int32)) (c0_2 : Int32) (c0_5 : Int32) (c0_6 : Int32) (c0_7 : Int32) (c0_8 : Int32) (c0_9 : Int32) (c0_10 : Int32) (c0_11 : (Nat → Int32)) (c0_12 : (Nat → Int32)) (y1 : Int32) (H : Heap) (locs : List Loc) (ls : Array Slot), pX10_readMap_L125 vD3 vD4 nL125 c0_0 c0_1 c0_2 c0_5 c0_6 c0_7 c0_8 c0_9 c0_10 c0_11 c0_12 y1 = some q → va_P D vwCl (wMD cC cI aD c0_0 c0_1 c0_2 vD3 vD4 c0_5 c0_6 c0_7 c0_8 c0_9 c0_10 c0_11 c0_12 vD13 vD14 vD15 vD16 vD17 vD18 vD19 vD20 vD21 vD22) H → va_D A (wMD cC cI aD c0_0 c0_1 c0_2 vD3 vD4 c0_5 c0_6 c0_7 c0_8 c0_9 c0_10 c0_11 c0_12 vD13 vD14 vD15 vD16 vD17 vD18 vD19 vD20 vD21 vD22) → va_S A s.heap H locs → lv_has ls 2 [(0, .ref aD.1), (1, .int y1)] → W p l e ({ frames := 3, cells := 0, slots := 0, locals := 67 } : Room) s m ([.ref aD.1] : List Value).toArray below meth c H locs 0 0 (MQ below (va_Qi (fun (r : Int32) (_ : Unit) => r = q.1) (fun _ => kPost D (wMD cC cI aD q.2.1 q.2.2.1 q.2.2.2.1 vD3 vD4 q.2.2.2.2.1 q.2.2.2.2.2.1 q.2.2.2.2.2.2.1 q.2.2.2.2.2.2.2.1 q.2.2.2.2.2.2.2.2.1 q.2.2.2.2.2.2.2.2.2.1 q.2.2.2.2.2.2.2.2.2.2.1 q.2.2.2.2.2.2.2.2.2.2.2 vD13 vD14 vD15 vD16 vD17 vD18 vD19 vD20 vD21 vD22) A) A) ([.ref aD.1] : List Value).toArray s 0 0 A) (F0 m 125 ls []) := by
    clear h hP hD hS hl
    intro nL125
    induction nL125 with
    | zero => intro c0_0 c0_1 c0_2 c0_5 c0_6 c0_7 c0_8 c0_9 c0_10 c0_11 c0_12 y1 H locs ls h; have h : (none : Option (Int32 × (Nat → Int32) × (Nat → Int32) × Int32 × Int32 × Int32 × Int32 × Int32 × Int32 × Int32 × (Nat → Int32) × (Nat → Int32))) = some q := h; cases h
    | succ nL125 ihL125 =>
      intro c0_0 c0_1 c0_2 c0_5 c0_6 c0_7 c0_8 c0_9 c0_10 c0_11 c0_12 y1 H locs ls h hP hD hS hl
      have h : pX10_readMap_bL125 vD3 vD4 (pX10_readMap_L125 vD3 vD4 nL125) c0_0 c0_1 c0_2 c0_5 c0_6 c0_7 c0_8 c0_9 c0_10 c0_11 c0_12 y1 = some q := h
      unfold pX10_readMap_bL125 at h
      refine lv_iload_n hx hb dX10_readMap_125 rfl (lv_at hl 1 rfl) ?_
      refine lv_aload_n hx hb dX10_readMap_126 rfl (lv_at hl 0 rfl) ?_
      refine va_get (D := D) (ci := 10) (v := .int c0_10) (C := RX10) (T := TX10) (N := 23) hx hb hts huX10 hown hK hP 0 rfl rfl 10 (by decide) (hts (.fieldLink RX10 117 "VerseColumnsModel" "read" "I") (by decide +kernel)) (fun _ h9 => h9) rfl dX10_readMap_127 ?_
      refine lv_icmp_ge (tgt := 155) hx hb dX10_readMap_130 (by decide) (fun g => ?_) (fun g => ?_)
      · rw [if_pos g] at h
        refine lv_aload_n hx hb dX10_readMap_155 rfl (lv_at hl 0 rfl) ?_
        obtain ⟨q10, h9, h⟩ := Option.bind_eq_some_iff.mp h
        refine kcir [0, 1, 2, 3, 4, 5, 6, 7, 8, 9, 10] (va_runV (As := []) (rest := []) ⟨hx, hb, hml, hown, hts⟩ (kX10_groups l D cI cC cS aD c0_0 c0_1 c0_2 vD3 vD4 c0_5 c0_6 c0_7 c0_8 c0_9 c0_10 c0_11 c0_12 vD13 vD14 vD15 vD16 vD17 vD18 vD19 vD20 vD21 vD22 H.size h9) (cwV 0 hts gX10_readMap_X10_groups rfl rfl rfl (by decide +kernel) ⟨Nat.le_of_ble_eq_true rfl, Nat.le_of_ble_eq_true rfl⟩) (kpreV hK hN hP hD [0, 1, 2, 3, 4, 5, 6, 7, 8, 9, 10] rfl (by decide) 10 rfl rfl) rfl rfl hl.1 rfl (lv_room (Nat.le_of_ble_eq_true rfl)) dX10_readMap_156 ⟨Nat.le_refl _, Nat.le_refl _⟩) hP hD hS hA rfl (fun H locs hP hS => ?_)
        obtain rfl := Option.some.inj h
        exact W.iret (v := q10) hx hb hr (fun t ht hW => ⟨⟨_, (), rfl, rfl, by rw [ht]; exact hP, hD⟩, hS.F ht⟩) hS.2.2 dX10_readMap_159
      · rw [if_neg g] at h
        refine lv_aload_n hx hb dX10_readMap_133 rfl (lv_at hl 0 rfl) ?_
        refine lv_aload_n hx hb dX10_readMap_134 rfl (lv_at hl 0 rfl) ?_
        refine va_get (D := D) (ci := 10) (v := .ref aD.2.2.2.2.1) (C := RX10) (T := TX10) (N := 23) hx hb hts huX10 hown hK hP 0 rfl rfl 11 (by decide) (hts (.fieldLink RX10 20 "VerseColumnsModel" "readLeft" "[I") (by decide +kernel)) (fun _ h9 => h9) rfl dX10_readMap_135 ?_
        refine lv_iload_n hx hb dX10_readMap_138 rfl (lv_at hl 1 rfl) ?_
        obtain ⟨g, h⟩ := kif h
        refine va_iald hx hb hK hP 4 0 rfl rfl (kin g) dX10_readMap_139 ?_
        refine lv_aload_n hx hb dX10_readMap_140 rfl (lv_at hl 0 rfl) ?_
        refine va_get (D := D) (ci := 10) (v := .ref aD.2.2.2.2.2.1) (C := RX10) (T := TX10) (N := 23) hx hb hts huX10 hown hK hP 0 rfl rfl 12 (by decide) (hts (.fieldLink RX10 23 "VerseColumnsModel" "readRight" "[I") (by decide +kernel)) (fun _ h9 => h9) rfl dX10_readMap_141 ?_
        refine lv_iload_n hx hb dX10_readMap_144 rfl (lv_at hl 1 rfl) ?_
        obtain ⟨g, h⟩ := kif h
        refine va_iald hx hb hK hP 5 0 rfl rfl (kin g) dX10_readMap_145 ?_
        obtain ⟨q12, h11, h⟩ := Option.bind_eq_some_iff.mp h
        refine kcvw (ws' := (wMD cC cI aD q12 c0_1 c0_2 vD3 vD4 c0_5 c0_6 c0_7 c0_8 c0_9 c0_10 c0_11 c0_12 vD13 vD14 vD15 vD16 vD17 vD18 vD19 vD20 vD21 vD22)) [0, 1, 2, 3, 4, 5, 6, 7, 8, 9, 10] (va_runV (As := [.int (c0_11 y1.toNatClampNeg), .int (c0_12 y1.toNatClampNeg)]) (rest := []) ⟨hx, hb, hml, hown, hts⟩ (kX10_addGroup l D cI cC cS aD c0_0 c0_1 c0_2 vD3 vD4 c0_5 c0_6 c0_7 c0_8 c0_9 c0_10 c0_11 c0_12 vD13 vD14 vD15 vD16 vD17 vD18 vD19 vD20 vD21 vD22 (c0_11 y1.toNatClampNeg) (c0_12 y1.toNatClampNeg) H.size h11) (cwV 2 hts gX10_readMap_X10_addGroup rfl rfl rfl (by decide +kernel) ⟨Nat.le_of_ble_eq_true rfl, Nat.le_of_ble_eq_true rfl⟩) (kpreV hK hN hP hD [0, 1, 2, 3, 4, 5, 6, 7, 8, 9, 10] rfl (by decide) 10 rfl rfl) rfl rfl hl.1 rfl (lv_room (Nat.le_of_ble_eq_true rfl)) dX10_readMap_146 ⟨Nat.le_refl _, Nat.le_refl _⟩) hP hD hS hA rfl (by decide) rfl [1, 2, 3, 4, 5, 6, 7, 8, 9, 10, 11] (by decide +kernel) rfl (fun H locs hP hD hS => ?_)
        refine lv_iinc (v := (y1 + (1 : Int32))) (lv' := [(1, .int (y1 + (1 : Int32))), (0, .ref aD.1)]) hx hb dX10_readMap_149 hl (k := 1) rfl rfl (by decide) rfl (fun ls hl => ?_)
        refine lv_goto (tgt := 125) hx hb dX10_readMap_152 (by decide) ?_
        exact ihL125 q12 c0_1 c0_2 c0_5 c0_6 c0_7 c0_8 c0_9 c0_10 c0_11 c0_12 (y1 + (1 : Int32)) _ _ _ h hP hD hS (lv_sub hl [1, 0] rfl)
  have j72 : ∀ (c0_0 : (Nat → Int32)) (c0_1 : (Nat → Int32)) (c0_2 : Int32) (c0_5 : Int32) (c0_6 : Int32) (c0_7 : Int32) (c0_8 : Int32) (c0_9 : Int32) (c0_10 : Int32) (c0_11 : (Nat → Int32)) (c0_12 : (Nat → Int32)) (H : Heap) (locs : List Loc) (ls : Array Slot), pX10_readMap_j72 vD3 vD4 c0_0 c0_1 c0_2 c0_5 c0_6 c0_7 c0_8 c0_9 c0_10 c0_11 c0_12 = some q → va_P D vwCl (wMD cC cI aD c0_0 c0_1 c0_2 vD3 vD4 c0_5 c0_6 c0_7 c0_8 c0_9 c0_10 c0_11 c0_12 vD13 vD14 vD15 vD16 vD17 vD18 vD19 vD20 vD21 vD22) H → va_D A (wMD cC cI aD c0_0 c0_1 c0_2 vD3 vD4 c0_5 c0_6 c0_7 c0_8 c0_9 c0_10 c0_11 c0_12 vD13 vD14 vD15 vD16 vD17 vD18 vD19 vD20 vD21 vD22) → va_S A s.heap H locs → lv_has ls 2 [(0, .ref aD.1)] → W p l e ({ frames := 3, cells := 0, slots := 0, locals := 67 } : Room) s m ([.ref aD.1] : List Value).toArray below meth c H locs 0 0 (MQ below (va_Qi (fun (r : Int32) (_ : Unit) => r = q.1) (fun _ => kPost D (wMD cC cI aD q.2.1 q.2.2.1 q.2.2.2.1 vD3 vD4 q.2.2.2.2.1 q.2.2.2.2.2.1 q.2.2.2.2.2.2.1 q.2.2.2.2.2.2.2.1 q.2.2.2.2.2.2.2.2.1 q.2.2.2.2.2.2.2.2.2.1 q.2.2.2.2.2.2.2.2.2.2.1 q.2.2.2.2.2.2.2.2.2.2.2 vD13 vD14 vD15 vD16 vD17 vD18 vD19 vD20 vD21 vD22) A) A) ([.ref aD.1] : List Value).toArray s 0 0 A) (F0 m 72 ls []) := by
    clear h hP hD hS hl
    intro c0_0 c0_1 c0_2 c0_5 c0_6 c0_7 c0_8 c0_9 c0_10 c0_11 c0_12 H locs ls h hP hD hS hl
    unfold pX10_readMap_j72 at h
    refine lv_aload_n hx hb dX10_readMap_72 rfl (lv_at hl 0 rfl) ?_
    refine va_get (D := D) (ci := 10) (v := .int c0_6) (C := RX10) (T := TX10) (N := 23) hx hb hts huX10 hown hK hP 0 rfl rfl 6 (by decide) (hts (.fieldLink RX10 109 "VerseColumnsModel" "isGood" "Z") (by decide +kernel)) (fun _ h9 => h9) rfl dX10_readMap_73 ?_
    refine lv_if_eq (tgt := 102) hx hb dX10_readMap_76 (by decide) (fun g => ?_) (fun g => ?_)
    · rw [if_pos g] at h
      refine lv_bipush (v := (-100 : Int32)) hx hb dX10_readMap_102 (by decide) ?_
      refine lv_aload_n hx hb dX10_readMap_104 rfl (lv_at hl 0 rfl) ?_
      refine va_get (D := D) (ci := 10) (v := .int c0_5) (C := RX10) (T := TX10) (N := 23) hx hb hts huX10 hown hK hP 0 rfl rfl 5 (by decide) (hts (.fieldLink RX10 103 "VerseColumnsModel" "place" "I") (by decide +kernel)) (fun _ h9 => h9) rfl dX10_readMap_105 ?_
      refine lv_isub hx hb dX10_readMap_108 ?_
      obtain rfl := Option.some.inj h
      exact W.iret (v := ((-100 : Int32) - c0_5)) hx hb hr (fun t ht hW => ⟨⟨_, (), rfl, rfl, by rw [ht]; exact hP, hD⟩, hS.F ht⟩) hS.2.2 dX10_readMap_109
    · rw [if_neg g] at h
      refine lv_aload_n hx hb dX10_readMap_79 rfl (lv_at hl 0 rfl) ?_
      refine va_get (D := D) (ci := 10) (v := .int c0_5) (C := RX10) (T := TX10) (N := 23) hx hb hts huX10 hown hK hP 0 rfl rfl 5 (by decide) (hts (.fieldLink RX10 103 "VerseColumnsModel" "place" "I") (by decide +kernel)) (fun _ h9 => h9) rfl dX10_readMap_80 ?_
      refine lv_aload_n hx hb dX10_readMap_83 rfl (lv_at hl 0 rfl) ?_
      refine va_get (D := D) (ci := 10) (v := .int vD3) (C := RX10) (T := TX10) (N := 23) hx hb hts huX10 hown hK hP 0 rfl rfl 3 (by decide) (hts (.fieldLink RX10 100 "VerseColumnsModel" "typed" "I") (by decide +kernel)) (fun _ h9 => h9) rfl dX10_readMap_84 ?_
      refine lv_icmp_lt (tgt := 102) hx hb dX10_readMap_87 (by decide) (fun g => ?_) (fun g => ?_)
      · rw [if_pos g] at h
        refine lv_bipush (v := (-100 : Int32)) hx hb dX10_readMap_102 (by decide) ?_
        refine lv_aload_n hx hb dX10_readMap_104 rfl (lv_at hl 0 rfl) ?_
        refine va_get (D := D) (ci := 10) (v := .int c0_5) (C := RX10) (T := TX10) (N := 23) hx hb hts huX10 hown hK hP 0 rfl rfl 5 (by decide) (hts (.fieldLink RX10 103 "VerseColumnsModel" "place" "I") (by decide +kernel)) (fun _ h9 => h9) rfl dX10_readMap_105 ?_
        refine lv_isub hx hb dX10_readMap_108 ?_
        obtain rfl := Option.some.inj h
        exact W.iret (v := ((-100 : Int32) - c0_5)) hx hb hr (fun t ht hW => ⟨⟨_, (), rfl, rfl, by rw [ht]; exact hP, hD⟩, hS.F ht⟩) hS.2.2 dX10_readMap_109
      · rw [if_neg g] at h
        refine lv_aload_n hx hb dX10_readMap_90 rfl (lv_at hl 0 rfl) ?_
        refine va_get (D := D) (ci := 10) (v := .int c0_8) (C := RX10) (T := TX10) (N := 23) hx hb hts huX10 hown hK hP 0 rfl rfl 8 (by decide) (hts (.fieldLink RX10 120 "VerseColumnsModel" "leftOver" "I") (by decide +kernel)) (fun _ h9 => h9) rfl dX10_readMap_91 ?_
        refine lv_aload_n hx hb dX10_readMap_94 rfl (lv_at hl 0 rfl) ?_
        refine va_get (D := D) (ci := 10) (v := .int c0_9) (C := RX10) (T := TX10) (N := 23) hx hb hts huX10 hown hK hP 0 rfl rfl 9 (by decide) (hts (.fieldLink RX10 123 "VerseColumnsModel" "rightOver" "I") (by decide +kernel)) (fun _ h9 => h9) rfl dX10_readMap_95 ?_
        refine lv_iadd hx hb dX10_readMap_98 ?_
        refine lv_if_le (tgt := 110) hx hb dX10_readMap_99 (by decide) (fun g => ?_) (fun g => ?_)
        · rw [if_pos g] at h
          refine lv_aload_n hx hb dX10_readMap_110 rfl (lv_at hl 0 rfl) ?_
          obtain ⟨q8, h7, h⟩ := Option.bind_eq_some_iff.mp h
          refine kcvw (ws' := (wMD cC cI aD c0_0 q8.1 q8.2 vD3 vD4 c0_5 c0_6 c0_7 c0_8 c0_9 c0_10 c0_11 c0_12 vD13 vD14 vD15 vD16 vD17 vD18 vD19 vD20 vD21 vD22)) [0, 1, 2, 3, 4, 5, 6, 7, 8, 9, 10] (va_runV (As := []) (rest := []) ⟨hx, hb, hml, hown, hts⟩ (kX10_record l D cI cC cS aD c0_0 c0_1 c0_2 vD3 vD4 c0_5 c0_6 c0_7 c0_8 c0_9 c0_10 c0_11 c0_12 vD13 vD14 vD15 vD16 vD17 vD18 vD19 vD20 vD21 vD22 H.size h7) (cwV 0 hts gX10_readMap_X10_record rfl rfl rfl (by decide +kernel) ⟨Nat.le_of_ble_eq_true rfl, Nat.le_of_ble_eq_true rfl⟩) (kpreV hK hN hP hD [0, 1, 2, 3, 4, 5, 6, 7, 8, 9, 10] rfl (by decide) 10 rfl rfl) rfl rfl hl.1 rfl (lv_room (Nat.le_of_ble_eq_true rfl)) dX10_readMap_111 ⟨Nat.le_refl _, Nat.le_refl _⟩) hP hD hS hA rfl (by decide) rfl [1, 2, 3, 4, 5, 6, 7, 8, 9, 10, 11] (by decide +kernel) rfl (fun H locs hP hD hS => ?_)
          refine lv_aload_n hx hb dX10_readMap_114 rfl (lv_at hl 0 rfl) ?_
          refine va_get (D := D) (ci := 10) (v := .ref aD.2.1) (C := RX10) (T := TX10) (N := 23) hx hb hts huX10 hown hK hP 0 rfl rfl 0 (by decide) (hts (.fieldLink RX10 7 "VerseColumnsModel" "row" "[I") (by decide +kernel)) (fun _ h9 => h9) rfl dX10_readMap_115 ?_
          refine lv_sipush (v := (364 : Int32)) hx hb dX10_readMap_118 (by decide) ?_
          refine lv_iconst (v := (0 : Int32)) hx hb dX10_readMap_121 (by decide) ?_
          obtain ⟨g, h⟩ := kif h
          refine va_iast hx hb hK hP hD hS 1 0 rfl rfl (kin g) dX10_readMap_122 (fun H locs hP hD hS => ?_)
          have hP : va_P D vwCl (wMD cC cI aD (upd c0_0 (364 : Int32).toNatClampNeg (0 : Int32)) q8.1 q8.2 vD3 vD4 c0_5 c0_6 c0_7 c0_8 c0_9 c0_10 c0_11 c0_12 vD13 vD14 vD15 vD16 vD17 vD18 vD19 vD20 vD21 vD22) H := hP
          have hD : va_D A (wMD cC cI aD (upd c0_0 (364 : Int32).toNatClampNeg (0 : Int32)) q8.1 q8.2 vD3 vD4 c0_5 c0_6 c0_7 c0_8 c0_9 c0_10 c0_11 c0_12 vD13 vD14 vD15 vD16 vD17 vD18 vD19 vD20 vD21 vD22) := hD
          refine lv_iconst (v := (0 : Int32)) hx hb dX10_readMap_123 (by decide) ?_
          refine lv_istore_n (lv' := [(1, .int (0 : Int32)), (0, .ref aD.1)]) hx hb dX10_readMap_124 rfl hl (by decide) rfl (fun ls hl => ?_)
          exact L125 4000 (upd c0_0 (364 : Int32).toNatClampNeg (0 : Int32)) q8.1 q8.2 c0_5 c0_6 c0_7 c0_8 c0_9 c0_10 c0_11 c0_12 (0 : Int32) _ _ _ h hP hD hS (lv_sub hl [1, 0] rfl)
        · rw [if_neg g] at h
          refine lv_bipush (v := (-100 : Int32)) hx hb dX10_readMap_102 (by decide) ?_
          refine lv_aload_n hx hb dX10_readMap_104 rfl (lv_at hl 0 rfl) ?_
          refine va_get (D := D) (ci := 10) (v := .int c0_5) (C := RX10) (T := TX10) (N := 23) hx hb hts huX10 hown hK hP 0 rfl rfl 5 (by decide) (hts (.fieldLink RX10 103 "VerseColumnsModel" "place" "I") (by decide +kernel)) (fun _ h9 => h9) rfl dX10_readMap_105 ?_
          refine lv_isub hx hb dX10_readMap_108 ?_
          obtain rfl := Option.some.inj h
          exact W.iret (v := ((-100 : Int32) - c0_5)) hx hb hr (fun t ht hW => ⟨⟨_, (), rfl, rfl, by rw [ht]; exact hP, hD⟩, hS.F ht⟩) hS.2.2 dX10_readMap_109
  have L37 : ∀ (nL37 : Nat) (c0_0 : (Nat → Int32)) (c0_1 : (Nat → Int32)) (c0_2 : Int32) (c0_5 : Int32) (c0_6 : Int32) (c0_7 : Int32) (c0_8 : Int32) (c0_9 : Int32) (c0_10 : Int32) (c0_11 : (Nat → Int32)) (c0_12 : (Nat → Int32)) (H : Heap) (locs : List Loc) (ls : Array Slot), pX10_readMap_L37 vD3 vD4 nL37 c0_0 c0_1 c0_2 c0_5 c0_6 c0_7 c0_8 c0_9 c0_10 c0_11 c0_12 = some q → va_P D vwCl (wMD cC cI aD c0_0 c0_1 c0_2 vD3 vD4 c0_5 c0_6 c0_7 c0_8 c0_9 c0_10 c0_11 c0_12 vD13 vD14 vD15 vD16 vD17 vD18 vD19 vD20 vD21 vD22) H → va_D A (wMD cC cI aD c0_0 c0_1 c0_2 vD3 vD4 c0_5 c0_6 c0_7 c0_8 c0_9 c0_10 c0_11 c0_12 vD13 vD14 vD15 vD16 vD17 vD18 vD19 vD20 vD21 vD22) → va_S A s.heap H locs → lv_has ls 2 [(0, .ref aD.1)] → W p l e ({ frames := 3, cells := 0, slots := 0, locals := 67 } : Room) s m ([.ref aD.1] : List Value).toArray below meth c H locs 0 0 (MQ below (va_Qi (fun (r : Int32) (_ : Unit) => r = q.1) (fun _ => kPost D (wMD cC cI aD q.2.1 q.2.2.1 q.2.2.2.1 vD3 vD4 q.2.2.2.2.1 q.2.2.2.2.2.1 q.2.2.2.2.2.2.1 q.2.2.2.2.2.2.2.1 q.2.2.2.2.2.2.2.2.1 q.2.2.2.2.2.2.2.2.2.1 q.2.2.2.2.2.2.2.2.2.2.1 q.2.2.2.2.2.2.2.2.2.2.2 vD13 vD14 vD15 vD16 vD17 vD18 vD19 vD20 vD21 vD22) A) A) ([.ref aD.1] : List Value).toArray s 0 0 A) (F0 m 37 ls []) := by
    clear h hP hD hS hl
    intro nL37
    induction nL37 with
    | zero => intro c0_0 c0_1 c0_2 c0_5 c0_6 c0_7 c0_8 c0_9 c0_10 c0_11 c0_12 H locs ls h; have h : (none : Option (Int32 × (Nat → Int32) × (Nat → Int32) × Int32 × Int32 × Int32 × Int32 × Int32 × Int32 × Int32 × (Nat → Int32) × (Nat → Int32))) = some q := h; cases h
    | succ nL37 ihL37 =>
      intro c0_0 c0_1 c0_2 c0_5 c0_6 c0_7 c0_8 c0_9 c0_10 c0_11 c0_12 H locs ls h hP hD hS hl
      have h : pX10_readMap_bL37 vD3 vD4 (pX10_readMap_L37 vD3 vD4 nL37) c0_0 c0_1 c0_2 c0_5 c0_6 c0_7 c0_8 c0_9 c0_10 c0_11 c0_12 = some q := h
      unfold pX10_readMap_bL37 at h
      refine lv_aload_n hx hb dX10_readMap_37 rfl (lv_at hl 0 rfl) ?_
      refine va_get (D := D) (ci := 10) (v := .int c0_6) (C := RX10) (T := TX10) (N := 23) hx hb hts huX10 hown hK hP 0 rfl rfl 6 (by decide) (hts (.fieldLink RX10 109 "VerseColumnsModel" "isGood" "Z") (by decide +kernel)) (fun _ h9 => h9) rfl dX10_readMap_38 ?_
      refine lv_if_eq (tgt := 72) hx hb dX10_readMap_41 (by decide) (fun g => ?_) (fun g => ?_)
      · rw [if_pos g] at h
        exact j72 c0_0 c0_1 c0_2 c0_5 c0_6 c0_7 c0_8 c0_9 c0_10 c0_11 c0_12 _ _ _ h hP hD hS (lv_sub hl [0] rfl)
      · rw [if_neg g] at h
        refine lv_aload_n hx hb dX10_readMap_44 rfl (lv_at hl 0 rfl) ?_
        refine lv_bipush (v := (44 : Int32)) hx hb dX10_readMap_45 (by decide) ?_
        refine lv_bipush (v := (44 : Int32)) hx hb dX10_readMap_47 (by decide) ?_
        obtain ⟨q14, h13, h⟩ := Option.bind_eq_some_iff.mp h
        refine kcir [0, 1, 2, 3, 4, 5, 6, 7, 8, 9, 10] (va_runV (As := [.int (44 : Int32), .int (44 : Int32)]) (rest := []) ⟨hx, hb, hml, hown, hts⟩ (kX10_isAt l D cI cC cS aD c0_0 c0_1 c0_2 vD3 vD4 c0_5 c0_6 c0_7 c0_8 c0_9 c0_10 c0_11 c0_12 vD13 vD14 vD15 vD16 vD17 vD18 vD19 vD20 vD21 vD22 (44 : Int32) (44 : Int32) H.size h13) (cwV 2 hts gX10_readMap_X10_isAt rfl rfl rfl (by decide +kernel) ⟨Nat.le_of_ble_eq_true rfl, Nat.le_of_ble_eq_true rfl⟩) (kpreV hK hN hP hD [0, 1, 2, 3, 4, 5, 6, 7, 8, 9, 10] rfl (by decide) 10 rfl rfl) rfl rfl hl.1 rfl (lv_room (Nat.le_of_ble_eq_true rfl)) dX10_readMap_49 ⟨Nat.le_refl _, Nat.le_refl _⟩) hP hD hS hA rfl (fun H locs hP hS => ?_)
        refine lv_if_eq (tgt := 72) hx hb dX10_readMap_52 (by decide) (fun g => ?_) (fun g => ?_)
        · rw [if_pos g] at h
          exact j72 c0_0 c0_1 c0_2 c0_5 c0_6 c0_7 c0_8 c0_9 c0_10 c0_11 c0_12 _ _ _ h hP hD hS (lv_sub hl [0] rfl)
        · rw [if_neg g] at h
          refine lv_aload_n hx hb dX10_readMap_55 rfl (lv_at hl 0 rfl) ?_
          refine lv_dup hx hb dX10_readMap_56 rfl ?_
          refine va_get (D := D) (ci := 10) (v := .int c0_5) (C := RX10) (T := TX10) (N := 23) hx hb hts huX10 hown hK hP 0 rfl rfl 5 (by decide) (hts (.fieldLink RX10 103 "VerseColumnsModel" "place" "I") (by decide +kernel)) (fun _ h9 => h9) rfl dX10_readMap_57 ?_
          refine lv_iconst (v := (1 : Int32)) hx hb dX10_readMap_60 (by decide) ?_
          refine lv_iadd hx hb dX10_readMap_61 ?_
          refine va_put (D := D) (ci := 10) (v := .int (c0_5 + (1 : Int32))) (ty := .int) (C := RX10) (T := TX10) (N := 23) hx hb hts huX10 tyX10 tyX10_ok nmX10 hown hK hP hD hS 0 rfl rfl 5 (by decide) (hts (.fieldLink RX10 103 "VerseColumnsModel" "place" "I") (by decide +kernel)) (fun _ h9 => h9) rfl (by decide +kernel) rfl rfl (Nat.le_of_ble_eq_true rfl) dX10_readMap_62 (fun H locs hP hD hS => ?_)
          have hP : va_P D vwCl (wMD cC cI aD c0_0 c0_1 c0_2 vD3 vD4 (c0_5 + (1 : Int32)) c0_6 c0_7 c0_8 c0_9 c0_10 c0_11 c0_12 vD13 vD14 vD15 vD16 vD17 vD18 vD19 vD20 vD21 vD22) H := hP
          have hD : va_D A (wMD cC cI aD c0_0 c0_1 c0_2 vD3 vD4 (c0_5 + (1 : Int32)) c0_6 c0_7 c0_8 c0_9 c0_10 c0_11 c0_12 vD13 vD14 vD15 vD16 vD17 vD18 vD19 vD20 vD21 vD22) := hD
          refine lv_aload_n hx hb dX10_readMap_65 rfl (lv_at hl 0 rfl) ?_
          obtain ⟨q16, h15, h⟩ := Option.bind_eq_some_iff.mp h
          refine kcvw (ws' := (wMD cC cI aD c0_0 c0_1 c0_2 vD3 vD4 q16.1 q16.2.1 q16.2.2.1 q16.2.2.2.1 q16.2.2.2.2.1 q16.2.2.2.2.2.1 q16.2.2.2.2.2.2.1 q16.2.2.2.2.2.2.2 vD13 vD14 vD15 vD16 vD17 vD18 vD19 vD20 vD21 vD22)) [0, 1, 2, 3, 4, 5, 6, 7, 8, 9, 10] (va_runV (As := []) (rest := []) ⟨hx, hb, hml, hown, hts⟩ (kX10_readItem l D cI cC cS aD c0_0 c0_1 c0_2 vD3 vD4 (c0_5 + (1 : Int32)) c0_6 c0_7 c0_8 c0_9 c0_10 c0_11 c0_12 vD13 vD14 vD15 vD16 vD17 vD18 vD19 vD20 vD21 vD22 H.size h15) (cwV 0 hts gX10_readMap_X10_readItem rfl rfl rfl (by decide +kernel) ⟨Nat.le_of_ble_eq_true rfl, Nat.le_of_ble_eq_true rfl⟩) (kpreV hK hN hP hD [0, 1, 2, 3, 4, 5, 6, 7, 8, 9, 10] rfl (by decide) 10 rfl rfl) rfl rfl hl.1 rfl (lv_room (Nat.le_of_ble_eq_true rfl)) dX10_readMap_66 ⟨Nat.le_refl _, Nat.le_refl _⟩) hP hD hS hA rfl (by decide) rfl [1, 2, 3, 4, 5, 6, 7, 8, 9, 10, 11] (by decide +kernel) rfl (fun H locs hP hD hS => ?_)
          refine lv_goto (tgt := 37) hx hb dX10_readMap_69 (by decide) ?_
          exact ihL37 c0_0 c0_1 c0_2 q16.1 q16.2.1 q16.2.2.1 q16.2.2.2.1 q16.2.2.2.2.1 q16.2.2.2.2.2.1 q16.2.2.2.2.2.2.1 q16.2.2.2.2.2.2.2 _ _ _ h hP hD hS (lv_sub hl [0] rfl)
  unfold pX10_readMap at h
  refine lv_aload_n hx hb dX10_readMap_0 rfl (lv_at hl 0 rfl) ?_
  refine lv_iconst (v := (0 : Int32)) hx hb dX10_readMap_1 (by decide) ?_
  refine va_put (D := D) (ci := 10) (v := .int (0 : Int32)) (ty := .int) (C := RX10) (T := TX10) (N := 23) hx hb hts huX10 tyX10 tyX10_ok nmX10 hown hK hP hD hS 0 rfl rfl 5 (by decide) (hts (.fieldLink RX10 103 "VerseColumnsModel" "place" "I") (by decide +kernel)) (fun _ h9 => h9) rfl (by decide +kernel) rfl rfl (Nat.le_of_ble_eq_true rfl) dX10_readMap_2 (fun H locs hP hD hS => ?_)
  have hP : va_P D vwCl (wMD cC cI aD vD0 vD1 vD2 vD3 vD4 (0 : Int32) vD6 vD7 vD8 vD9 vD10 vD11 vD12 vD13 vD14 vD15 vD16 vD17 vD18 vD19 vD20 vD21 vD22) H := hP
  have hD : va_D A (wMD cC cI aD vD0 vD1 vD2 vD3 vD4 (0 : Int32) vD6 vD7 vD8 vD9 vD10 vD11 vD12 vD13 vD14 vD15 vD16 vD17 vD18 vD19 vD20 vD21 vD22) := hD
  refine lv_aload_n hx hb dX10_readMap_5 rfl (lv_at hl 0 rfl) ?_
  refine lv_iconst (v := (1 : Int32)) hx hb dX10_readMap_6 (by decide) ?_
  refine va_put (D := D) (ci := 10) (v := .int (1 : Int32)) (ty := .boolean) (C := RX10) (T := TX10) (N := 23) hx hb hts huX10 tyX10 tyX10_ok nmX10 hown hK hP hD hS 0 rfl rfl 6 (by decide) (hts (.fieldLink RX10 109 "VerseColumnsModel" "isGood" "Z") (by decide +kernel)) (fun _ h9 => h9) rfl (by decide +kernel) rfl rfl (Nat.le_of_ble_eq_true rfl) dX10_readMap_7 (fun H locs hP hD hS => ?_)
  have hP : va_P D vwCl (wMD cC cI aD vD0 vD1 vD2 vD3 vD4 (0 : Int32) (1 : Int32) vD7 vD8 vD9 vD10 vD11 vD12 vD13 vD14 vD15 vD16 vD17 vD18 vD19 vD20 vD21 vD22) H := hP
  have hD : va_D A (wMD cC cI aD vD0 vD1 vD2 vD3 vD4 (0 : Int32) (1 : Int32) vD7 vD8 vD9 vD10 vD11 vD12 vD13 vD14 vD15 vD16 vD17 vD18 vD19 vD20 vD21 vD22) := hD
  refine lv_aload_n hx hb dX10_readMap_10 rfl (lv_at hl 0 rfl) ?_
  refine lv_iconst (v := (0 : Int32)) hx hb dX10_readMap_11 (by decide) ?_
  refine va_put (D := D) (ci := 10) (v := .int (0 : Int32)) (ty := .int) (C := RX10) (T := TX10) (N := 23) hx hb hts huX10 tyX10 tyX10_ok nmX10 hown hK hP hD hS 0 rfl rfl 10 (by decide) (hts (.fieldLink RX10 117 "VerseColumnsModel" "read" "I") (by decide +kernel)) (fun _ h9 => h9) rfl (by decide +kernel) rfl rfl (Nat.le_of_ble_eq_true rfl) dX10_readMap_12 (fun H locs hP hD hS => ?_)
  have hP : va_P D vwCl (wMD cC cI aD vD0 vD1 vD2 vD3 vD4 (0 : Int32) (1 : Int32) vD7 vD8 vD9 (0 : Int32) vD11 vD12 vD13 vD14 vD15 vD16 vD17 vD18 vD19 vD20 vD21 vD22) H := hP
  have hD : va_D A (wMD cC cI aD vD0 vD1 vD2 vD3 vD4 (0 : Int32) (1 : Int32) vD7 vD8 vD9 (0 : Int32) vD11 vD12 vD13 vD14 vD15 vD16 vD17 vD18 vD19 vD20 vD21 vD22) := hD
  refine lv_aload_n hx hb dX10_readMap_15 rfl (lv_at hl 0 rfl) ?_
  refine lv_aload_n hx hb dX10_readMap_16 rfl (lv_at hl 0 rfl) ?_
  refine lv_iconst (v := (0 : Int32)) hx hb dX10_readMap_17 (by decide) ?_
  obtain ⟨q2, h1, h⟩ := Option.bind_eq_some_iff.mp h
  refine kcir [0, 1, 2, 3, 4, 5, 6, 7, 8, 9, 10] (va_runV (As := [.int (0 : Int32)]) (rest := [.ref aD.1]) ⟨hx, hb, hml, hown, hts⟩ (kX10_size l D cI cC cS aD vD0 vD1 vD2 vD3 vD4 (0 : Int32) (1 : Int32) vD7 vD8 vD9 (0 : Int32) vD11 vD12 vD13 vD14 vD15 vD16 vD17 vD18 vD19 vD20 vD21 vD22 (0 : Int32) H.size h1) (cwV 1 hts gX10_readMap_X10_size rfl rfl rfl (by decide +kernel) ⟨Nat.le_of_ble_eq_true rfl, Nat.le_of_ble_eq_true rfl⟩) (kpreV hK hN hP hD [0, 1, 2, 3, 4, 5, 6, 7, 8, 9, 10] rfl (by decide) 10 rfl rfl) rfl rfl hl.1 rfl (lv_room (Nat.le_of_ble_eq_true rfl)) dX10_readMap_18 ⟨Nat.le_refl _, Nat.le_refl _⟩) hP hD hS hA rfl (fun H locs hP hS => ?_)
  refine va_put (D := D) (ci := 10) (v := .int q2) (ty := .int) (C := RX10) (T := TX10) (N := 23) hx hb hts huX10 tyX10 tyX10_ok nmX10 hown hK hP hD hS 0 rfl rfl 8 (by decide) (hts (.fieldLink RX10 120 "VerseColumnsModel" "leftOver" "I") (by decide +kernel)) (fun _ h9 => h9) rfl (by decide +kernel) rfl rfl (Nat.le_of_ble_eq_true rfl) dX10_readMap_21 (fun H locs hP hD hS => ?_)
  have hP : va_P D vwCl (wMD cC cI aD vD0 vD1 vD2 vD3 vD4 (0 : Int32) (1 : Int32) vD7 q2 vD9 (0 : Int32) vD11 vD12 vD13 vD14 vD15 vD16 vD17 vD18 vD19 vD20 vD21 vD22) H := hP
  have hD : va_D A (wMD cC cI aD vD0 vD1 vD2 vD3 vD4 (0 : Int32) (1 : Int32) vD7 q2 vD9 (0 : Int32) vD11 vD12 vD13 vD14 vD15 vD16 vD17 vD18 vD19 vD20 vD21 vD22) := hD
  refine lv_aload_n hx hb dX10_readMap_24 rfl (lv_at hl 0 rfl) ?_
  refine lv_aload_n hx hb dX10_readMap_25 rfl (lv_at hl 0 rfl) ?_
  refine lv_iconst (v := (1 : Int32)) hx hb dX10_readMap_26 (by decide) ?_
  obtain ⟨q4, h3, h⟩ := Option.bind_eq_some_iff.mp h
  refine kcir [0, 1, 2, 3, 4, 5, 6, 7, 8, 9, 10] (va_runV (As := [.int (1 : Int32)]) (rest := [.ref aD.1]) ⟨hx, hb, hml, hown, hts⟩ (kX10_size l D cI cC cS aD vD0 vD1 vD2 vD3 vD4 (0 : Int32) (1 : Int32) vD7 q2 vD9 (0 : Int32) vD11 vD12 vD13 vD14 vD15 vD16 vD17 vD18 vD19 vD20 vD21 vD22 (1 : Int32) H.size h3) (cwV 1 hts gX10_readMap_X10_size rfl rfl rfl (by decide +kernel) ⟨Nat.le_of_ble_eq_true rfl, Nat.le_of_ble_eq_true rfl⟩) (kpreV hK hN hP hD [0, 1, 2, 3, 4, 5, 6, 7, 8, 9, 10] rfl (by decide) 10 rfl rfl) rfl rfl hl.1 rfl (lv_room (Nat.le_of_ble_eq_true rfl)) dX10_readMap_27 ⟨Nat.le_refl _, Nat.le_refl _⟩) hP hD hS hA rfl (fun H locs hP hS => ?_)
  refine va_put (D := D) (ci := 10) (v := .int q4) (ty := .int) (C := RX10) (T := TX10) (N := 23) hx hb hts huX10 tyX10 tyX10_ok nmX10 hown hK hP hD hS 0 rfl rfl 9 (by decide) (hts (.fieldLink RX10 123 "VerseColumnsModel" "rightOver" "I") (by decide +kernel)) (fun _ h9 => h9) rfl (by decide +kernel) rfl rfl (Nat.le_of_ble_eq_true rfl) dX10_readMap_30 (fun H locs hP hD hS => ?_)
  have hP : va_P D vwCl (wMD cC cI aD vD0 vD1 vD2 vD3 vD4 (0 : Int32) (1 : Int32) vD7 q2 q4 (0 : Int32) vD11 vD12 vD13 vD14 vD15 vD16 vD17 vD18 vD19 vD20 vD21 vD22) H := hP
  have hD : va_D A (wMD cC cI aD vD0 vD1 vD2 vD3 vD4 (0 : Int32) (1 : Int32) vD7 q2 q4 (0 : Int32) vD11 vD12 vD13 vD14 vD15 vD16 vD17 vD18 vD19 vD20 vD21 vD22) := hD
  refine lv_aload_n hx hb dX10_readMap_33 rfl (lv_at hl 0 rfl) ?_
  obtain ⟨q6, h5, h⟩ := Option.bind_eq_some_iff.mp h
  refine kcvw (ws' := (wMD cC cI aD vD0 vD1 vD2 vD3 vD4 q6.1 q6.2.1 q6.2.2.1 q6.2.2.2.1 q6.2.2.2.2.1 q6.2.2.2.2.2.1 q6.2.2.2.2.2.2.1 q6.2.2.2.2.2.2.2 vD13 vD14 vD15 vD16 vD17 vD18 vD19 vD20 vD21 vD22)) [0, 1, 2, 3, 4, 5, 6, 7, 8, 9, 10] (va_runV (As := []) (rest := []) ⟨hx, hb, hml, hown, hts⟩ (kX10_readItem l D cI cC cS aD vD0 vD1 vD2 vD3 vD4 (0 : Int32) (1 : Int32) vD7 q2 q4 (0 : Int32) vD11 vD12 vD13 vD14 vD15 vD16 vD17 vD18 vD19 vD20 vD21 vD22 H.size h5) (cwV 0 hts gX10_readMap_X10_readItem rfl rfl rfl (by decide +kernel) ⟨Nat.le_of_ble_eq_true rfl, Nat.le_of_ble_eq_true rfl⟩) (kpreV hK hN hP hD [0, 1, 2, 3, 4, 5, 6, 7, 8, 9, 10] rfl (by decide) 10 rfl rfl) rfl rfl hl.1 rfl (lv_room (Nat.le_of_ble_eq_true rfl)) dX10_readMap_34 ⟨Nat.le_refl _, Nat.le_refl _⟩) hP hD hS hA rfl (by decide) rfl [1, 2, 3, 4, 5, 6, 7, 8, 9, 10, 11] (by decide +kernel) rfl (fun H locs hP hD hS => ?_)
  exact L37 4000 vD0 vD1 vD2 q6.1 q6.2.1 q6.2.2.1 q6.2.2.2.1 q6.2.2.2.2.1 q6.2.2.2.2.2.1 q6.2.2.2.2.2.2.1 q6.2.2.2.2.2.2.2 _ _ _ h hP hD hS (lv_sub hl [0] rfl)
