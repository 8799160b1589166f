-- walks: ref (printed by wip/whole/gen)
set_option maxHeartbeats 8000000 in
set_option maxRecDepth 100000 in
theorem kX10_addChapter (l : Launch) (D : va_G) (cI cC cS : ClassId) (aD : Nat × Nat × Nat × Nat × Nat × Nat × Nat × Nat × Nat × Nat × Nat) (vD0 : (Nat → Int32)) (vD1 : (Nat → Int32)) (vD2 : Int32) (vD3 : Int32) (vD4 : (Nat → Int32)) (vD5 : Int32) (vD6 : Int32) (vD7 : Int32) (vD8 : Int32) (vD9 : Int32) (vD10 : Int32) (vD11 : (Nat → Int32)) (vD12 : (Nat → Int32)) (vD13 : Int32) (vD14 : Int32) (vD15 : (Nat → Int32)) (vD16 : Int32) (vD17 : Int32) (vD18 : Int32) (vD19 : (Nat → Int32)) (vD20 : (Nat → Int32)) (vD21 : (Nat → Int32)) (vD22 : (Nat → Int32)) (i1 : Int32) (i2 : Int32) (i3 : Int32) (sz : Nat) {q : Int32 × (Nat → Int32) × (Nat → Int32) × Int32} (h : pX10_addChapter vD0 vD1 vD2 i1 i2 i3 = some q) : kMi l yX10_addChapter wsX10_addChapter ({ frames := 2, cells := 0, slots := 0, locals := 42 } : Room) D (kTy cI cC cS) [.ref aD.1, .int i1, .int i2, .int i3] (wMD cC cI aD vD0 vD1 vD2 vD3 vD4 vD5 vD6 vD7 vD8 vD9 vD10 vD11 vD12 vD13 vD14 vD15 vD16 vD17 vD18 vD19 vD20 vD21 vD22) sz q.1 (wMD cC cI aD q.2.1 q.2.2.1 q.2.2.2 vD3 vD4 vD5 vD6 vD7 vD8 vD9 vD10 vD11 vD12 vD13 vD14 vD15 vD16 vD17 vD18 vD19 vD20 vD21 vD22) := by
  refine Met.ofW (cc := cX10_addChapter) (maxL := 6) (ret := (some .int)) (by decide) rfl ?_
  intro p e s m args below meth c s₁ B hml hv
  obtain ⟨rfl, hsz, hP, hK, hD0, hN⟩ := hv
  have hx := B.exec
  have hb := B.bytes
  have hr := B.returns
  have hts := atoms_spec (ws := wsX10_addChapter) B.pre
  have hown : s.vm.findClass RX10 = some m.cls := findClass_of_methodNamed B.named
  have hlocks := B.notSynchronized
  subst hsz
  have hD := hD0.self (sz := s.heap.size)
  generalize hAe : va_A (wMD cC cI aD vD0 vD1 vD2 vD3 vD4 vD5 vD6 vD7 vD8 vD9 vD10 vD11 vD12 vD13 vD14 vD15 vD16 vD17 vD18 vD19 vD20 vD21 vD22) s.heap.size = A at hD ⊢
  have hA : ∀ q : Nat, s.heap.size ≤ q → A q := fun q h => by rw [← hAe]; exact Or.inr h
  have hS : va_S A s.heap s.heap [] := va_S.rf
  have huX10 : ∀ w ∈ u_ws RX10 TX10 23, w ∈ wsX10_addChapter := by decide +kernel
  have hl := lv_entry ([.ref aD.1, .int i1, .int i2, .int i3]) (n := 6) (Nat.le_of_ble_eq_true rfl)
  rw [lg_entry_eq]
  generalize (lg_sl ([.ref aD.1, .int i1, .int i2, .int i3]) ++ List.replicate (6 - (lg_sl ([.ref aD.1, .int i1, .int i2, .int i3])).length) Slot.unset).toArray = ls at hl ⊢
  have hl : lv_has ls 6 [(0, .ref aD.1), (1, .int i1), (2, .int i2), (3, .int i3)] := hl
  have L84 : ∀ (nL84 : Nat) (c0_0 : (Nat → Int32)) (c0_1 : (Nat → Int32)) (c0_2 : Int32) (y1 : Int32) (y2 : Int32) (y3 : Int32) (y4 : Int32) (H : Heap) (locs : List Loc) (ls : Array Slot), pX10_addChapter_L84  nL84 c0_0 c0_1 c0_2 y1 y2 y3 y4 = some q → va_P D vwCl (wMD cC cI aD c0_0 c0_1 c0_2 vD3 vD4 vD5 vD6 vD7 vD8 vD9 vD10 vD11 vD12 vD13 vD14 vD15 vD16 vD17 vD18 vD19 vD20 vD21 vD22) H → va_D A (wMD cC cI aD c0_0 c0_1 c0_2 vD3 vD4 vD5 vD6 vD7 vD8 vD9 vD10 vD11 vD12 vD13 vD14 vD15 vD16 vD17 vD18 vD19 vD20 vD21 vD22) → va_S A s.heap H locs → lv_has ls 6 [(0, .ref aD.1), (1, .int y1), (2, .int y2), (3, .int y3), (4, .int y4)] → W p l e ({ frames := 2, cells := 0, slots := 0, locals := 42 } : Room) s m ([.ref aD.1, .int i1, .int i2, .int i3] : List Value).toArray below meth c H locs 0 0 (MQ below (va_Qi (fun (r : Int32) (_ : Unit) => r = q.1) (fun _ => kPost D (wMD cC cI aD q.2.1 q.2.2.1 q.2.2.2 vD3 vD4 vD5 vD6 vD7 vD8 vD9 vD10 vD11 vD12 vD13 vD14 vD15 vD16 vD17 vD18 vD19 vD20 vD21 vD22) A) A) ([.ref aD.1, .int i1, .int i2, .int i3] : List Value).toArray s 0 0 A) (F0 m 84 ls []) := by
    clear h hP hD hS hl
    intro nL84
    induction nL84 with
    | zero => intro c0_0 c0_1 c0_2 y1 y2 y3 y4 H locs ls h; have h : (none : Option (Int32 × (Nat → Int32) × (Nat → Int32) × Int32)) = some q := h; cases h
    | succ nL84 ihL84 =>
      intro c0_0 c0_1 c0_2 y1 y2 y3 y4 H locs ls h hP hD hS hl
      have h : pX10_addChapter_bL84 (pX10_addChapter_L84  nL84) c0_0 c0_1 c0_2 y1 y2 y3 y4 = some q := h
      unfold pX10_addChapter_bL84 at h
      refine lv_iload hx hb dX10_addChapter_84 (lv_at hl 4 rfl) ?_
      refine lv_iload_n hx hb dX10_addChapter_86 rfl (lv_at hl 2 rfl) ?_
      refine lv_icmp_ge (tgt := 170) hx hb dX10_addChapter_87 (by decide) (fun g => ?_) (fun g => ?_)
      · rw [if_pos g] at h
        refine lv_aload_n hx hb dX10_addChapter_170 rfl (lv_at hl 0 rfl) ?_
        refine va_get (D := D) (ci := 10) (v := .ref aD.2.1) (C := RX10) (T := TX10) (N := 23) hx hb hts huX10 hown hK hP 0 rfl rfl 0 (by decide) (hts (.fieldLink RX10 7 "VerseColumnsModel" "row" "[I") (by decide +kernel)) (fun _ h9 => h9) rfl dX10_addChapter_171 ?_
        refine lv_sipush (v := (362 : Int32)) hx hb dX10_addChapter_174 (by decide) ?_
        refine lv_iload_n hx hb dX10_addChapter_177 rfl (lv_at hl 1 rfl) ?_
        refine lv_iadd hx hb dX10_addChapter_178 ?_
        obtain ⟨g, h⟩ := kif h
        refine va_iald hx hb hK hP 1 0 rfl rfl (kin g) dX10_addChapter_179 ?_
        obtain rfl := Option.some.inj h
        exact W.iret (v := (c0_0 ((362 : Int32) + y1).toNatClampNeg)) hx hb hr (fun t ht hW => ⟨⟨_, (), rfl, rfl, by rw [ht]; exact hP, hD⟩, hS.F ht⟩) hS.2.2 dX10_addChapter_180
      · rw [if_neg g] at h
        refine lv_bipush (v := (60 : Int32)) hx hb dX10_addChapter_90 (by decide) ?_
        refine lv_iload_n hx hb dX10_addChapter_92 rfl (lv_at hl 1 rfl) ?_
        refine lv_imul hx hb dX10_addChapter_93 ?_
        refine lv_aload_n hx hb dX10_addChapter_94 rfl (lv_at hl 0 rfl) ?_
        refine lv_iload_n hx hb dX10_addChapter_95 rfl (lv_at hl 1 rfl) ?_
        obtain ⟨q12, h11, h⟩ := Option.bind_eq_some_iff.mp h
        refine kcir [0, 1, 2, 3, 4, 5, 6, 7, 8, 9, 10] (va_runV (As := [.int y1]) (rest := [.int ((60 : Int32) * y1)]) ⟨hx, hb, hml, hown, hts⟩ (kX10_size l D cI cC cS aD c0_0 c0_1 c0_2 vD3 vD4 vD5 vD6 vD7 vD8 vD9 vD10 vD11 vD12 vD13 vD14 vD15 vD16 vD17 vD18 vD19 vD20 vD21 vD22 y1 H.size h11) (cwV 1 hts gX10_addChapter_X10_size rfl rfl rfl (by decide +kernel) ⟨Nat.le_of_ble_eq_true rfl, Nat.le_of_ble_eq_true rfl⟩) (kpreV hK hN hP hD [0, 1, 2, 3, 4, 5, 6, 7, 8, 9, 10] rfl (by decide) 10 rfl rfl) rfl rfl hl.1 rfl (lv_room (Nat.le_of_ble_eq_true rfl)) dX10_addChapter_96 ⟨Nat.le_refl _, Nat.le_refl _⟩) hP hD hS hA rfl (fun H locs hP hS => ?_)
        refine lv_iadd hx hb dX10_addChapter_99 ?_
        refine lv_istore (lv' := [(5, .int (((60 : Int32) * y1) + q12)), (0, .ref aD.1), (1, .int y1), (2, .int y2), (3, .int y3), (4, .int y4)]) hx hb dX10_addChapter_100 hl (by decide) rfl (fun ls hl => ?_)
        refine lv_aload_n hx hb dX10_addChapter_102 rfl (lv_at hl 1 rfl) ?_
        refine va_get (D := D) (ci := 10) (v := .ref aD.2.1) (C := RX10) (T := TX10) (N := 23) hx hb hts huX10 hown hK hP 0 rfl rfl 0 (by decide) (hts (.fieldLink RX10 7 "VerseColumnsModel" "row" "[I") (by decide +kernel)) (fun _ h9 => h9) rfl dX10_addChapter_103 ?_
        refine lv_iload hx hb dX10_addChapter_106 (lv_at hl 0 rfl) ?_
        refine lv_iload_n hx hb dX10_addChapter_108 rfl (lv_at hl 4 rfl) ?_
        obtain ⟨g, h⟩ := kif h
        refine va_iast hx hb hK hP hD hS 1 0 rfl rfl (kin g) dX10_addChapter_109 (fun H locs hP hD hS => ?_)
        have hP : va_P D vwCl (wMD cC cI aD (upd c0_0 (((60 : Int32) * y1) + q12).toNatClampNeg y3) c0_1 c0_2 vD3 vD4 vD5 vD6 vD7 vD8 vD9 vD10 vD11 vD12 vD13 vD14 vD15 vD16 vD17 vD18 vD19 vD20 vD21 vD22) H := hP
        have hD : va_D A (wMD cC cI aD (upd c0_0 (((60 : Int32) * y1) + q12).toNatClampNeg y3) c0_1 c0_2 vD3 vD4 vD5 vD6 vD7 vD8 vD9 vD10 vD11 vD12 vD13 vD14 vD15 vD16 vD17 vD18 vD19 vD20 vD21 vD22) := hD
        refine lv_aload_n hx hb dX10_addChapter_110 rfl (lv_at hl 1 rfl) ?_
        refine va_get (D := D) (ci := 10) (v := .ref aD.2.1) (C := RX10) (T := TX10) (N := 23) hx hb hts huX10 hown hK hP 0 rfl rfl 0 (by decide) (hts (.fieldLink RX10 7 "VerseColumnsModel" "row" "[I") (by decide +kernel)) (fun _ h9 => h9) rfl dX10_addChapter_111 ?_
        refine lv_bipush (v := (120 : Int32)) hx hb dX10_addChapter_114 (by decide) ?_
        refine lv_iload hx hb dX10_addChapter_116 (lv_at hl 0 rfl) ?_
        refine lv_iadd hx hb dX10_addChapter_118 ?_
        refine lv_iconst (v := (0 : Int32)) hx hb dX10_addChapter_119 (by decide) ?_
        obtain ⟨g, h⟩ := kif h
        refine va_iast hx hb hK hP hD hS 1 0 rfl rfl (kin g) dX10_addChapter_120 (fun H locs hP hD hS => ?_)
        have hP : va_P D vwCl (wMD cC cI aD (upd (upd c0_0 (((60 : Int32) * y1) + q12).toNatClampNeg y3) ((120 : Int32) + (((60 : Int32) * y1) + q12)).toNatClampNeg (0 : Int32)) c0_1 c0_2 vD3 vD4 vD5 vD6 vD7 vD8 vD9 vD10 vD11 vD12 vD13 vD14 vD15 vD16 vD17 vD18 vD19 vD20 vD21 vD22) H := hP
        have hD : va_D A (wMD cC cI aD (upd (upd c0_0 (((60 : Int32) * y1) + q12).toNatClampNeg y3) ((120 : Int32) + (((60 : Int32) * y1) + q12)).toNatClampNeg (0 : Int32)) c0_1 c0_2 vD3 vD4 vD5 vD6 vD7 vD8 vD9 vD10 vD11 vD12 vD13 vD14 vD15 vD16 vD17 vD18 vD19 vD20 vD21 vD22) := hD
        refine lv_aload_n hx hb dX10_addChapter_121 rfl (lv_at hl 1 rfl) ?_
        refine va_get (D := D) (ci := 10) (v := .ref aD.2.1) (C := RX10) (T := TX10) (N := 23) hx hb hts huX10 hown hK hP 0 rfl rfl 0 (by decide) (hts (.fieldLink RX10 7 "VerseColumnsModel" "row" "[I") (by decide +kernel)) (fun _ h9 => h9) rfl dX10_addChapter_122 ?_
        refine lv_sipush (v := (240 : Int32)) hx hb dX10_addChapter_125 (by decide) ?_
        refine lv_iload hx hb dX10_addChapter_128 (lv_at hl 0 rfl) ?_
        refine lv_iadd hx hb dX10_addChapter_130 ?_
        refine lv_aload_n hx hb dX10_addChapter_131 rfl (lv_at hl 1 rfl) ?_
        refine va_get (D := D) (ci := 10) (v := .ref aD.2.1) (C := RX10) (T := TX10) (N := 23) hx hb hts huX10 hown hK hP 0 rfl rfl 0 (by decide) (hts (.fieldLink RX10 7 "VerseColumnsModel" "row" "[I") (by decide +kernel)) (fun _ h9 => h9) rfl dX10_addChapter_132 ?_
        refine lv_sipush (v := (362 : Int32)) hx hb dX10_addChapter_135 (by decide) ?_
        refine lv_iload_n hx hb dX10_addChapter_138 rfl (lv_at hl 2 rfl) ?_
        refine lv_iadd hx hb dX10_addChapter_139 ?_
        obtain ⟨g, h⟩ := kif h
        refine va_iald hx hb hK hP 1 0 rfl rfl (kin g) dX10_addChapter_140 ?_
        obtain ⟨g, h⟩ := kif h
        refine va_iast hx hb hK hP hD hS 1 0 rfl rfl (kin g) dX10_addChapter_141 (fun H locs hP hD hS => ?_)
        have hP : va_P D vwCl (wMD cC cI aD (upd (upd (upd c0_0 (((60 : Int32) * y1) + q12).toNatClampNeg y3) ((120 : Int32) + (((60 : Int32) * y1) + q12)).toNatClampNeg (0 : Int32)) ((240 : Int32) + (((60 : Int32) * y1) + q12)).toNatClampNeg ((upd (upd c0_0 (((60 : Int32) * y1) + q12).toNatClampNeg y3) ((120 : Int32) + (((60 : Int32) * y1) + q12)).toNatClampNeg (0 : Int32)) ((362 : Int32) + y1).toNatClampNeg)) c0_1 c0_2 vD3 vD4 vD5 vD6 vD7 vD8 vD9 vD10 vD11 vD12 vD13 vD14 vD15 vD16 vD17 vD18 vD19 vD20 vD21 vD22) H := hP
        have hD : va_D A (wMD cC cI aD (upd (upd (upd c0_0 (((60 : Int32) * y1) + q12).toNatClampNeg y3) ((120 : Int32) + (((60 : Int32) * y1) + q12)).toNatClampNeg (0 : Int32)) ((240 : Int32) + (((60 : Int32) * y1) + q12)).toNatClampNeg ((upd (upd c0_0 (((60 : Int32) * y1) + q12).toNatClampNeg y3) ((120 : Int32) + (((60 : Int32) * y1) + q12)).toNatClampNeg (0 : Int32)) ((362 : Int32) + y1).toNatClampNeg)) c0_1 c0_2 vD3 vD4 vD5 vD6 vD7 vD8 vD9 vD10 vD11 vD12 vD13 vD14 vD15 vD16 vD17 vD18 vD19 vD20 vD21 vD22) := hD
        refine lv_aload_n hx hb dX10_addChapter_142 rfl (lv_at hl 1 rfl) ?_
        refine va_get (D := D) (ci := 10) (v := .ref aD.2.1) (C := RX10) (T := TX10) (N := 23) hx hb hts huX10 hown hK hP 0 rfl rfl 0 (by decide) (hts (.fieldLink RX10 7 "VerseColumnsModel" "row" "[I") (by decide +kernel)) (fun _ h9 => h9) rfl dX10_addChapter_143 ?_
        refine lv_sipush (v := (360 : Int32)) hx hb dX10_addChapter_146 (by decide) ?_
        refine lv_iload_n hx hb dX10_addChapter_149 rfl (lv_at hl 2 rfl) ?_
        refine lv_iadd hx hb dX10_addChapter_150 ?_
        refine lv_dup2_11 hx hb dX10_addChapter_151 rfl rfl ?_
        obtain ⟨g, h⟩ := kif h
        refine va_iald hx hb hK hP 1 0 rfl rfl (kin g) dX10_addChapter_152 ?_
        refine lv_iconst (v := (1 : Int32)) hx hb dX10_addChapter_153 (by decide) ?_
        refine lv_iadd hx hb dX10_addChapter_154 ?_
        obtain ⟨g, h⟩ := kif h
        refine va_iast hx hb hK hP hD hS 1 0 rfl rfl (kin g) dX10_addChapter_155 (fun H locs hP hD hS => ?_)
        have hP : va_P D vwCl (wMD cC cI aD (upd (upd (upd (upd c0_0 (((60 : Int32) * y1) + q12).toNatClampNeg y3) ((120 : Int32) + (((60 : Int32) * y1) + q12)).toNatClampNeg (0 : Int32)) ((240 : Int32) + (((60 : Int32) * y1) + q12)).toNatClampNeg ((upd (upd c0_0 (((60 : Int32) * y1) + q12).toNatClampNeg y3) ((120 : Int32) + (((60 : Int32) * y1) + q12)).toNatClampNeg (0 : Int32)) ((362 : Int32) + y1).toNatClampNeg)) ((360 : Int32) + y1).toNatClampNeg (((upd (upd (upd c0_0 (((60 : Int32) * y1) + q12).toNatClampNeg y3) ((120 : Int32) + (((60 : Int32) * y1) + q12)).toNatClampNeg (0 : Int32)) ((240 : Int32) + (((60 : Int32) * y1) + q12)).toNatClampNeg ((upd (upd c0_0 (((60 : Int32) * y1) + q12).toNatClampNeg y3) ((120 : Int32) + (((60 : Int32) * y1) + q12)).toNatClampNeg (0 : Int32)) ((362 : Int32) + y1).toNatClampNeg)) ((360 : Int32) + y1).toNatClampNeg) + (1 : Int32))) c0_1 c0_2 vD3 vD4 vD5 vD6 vD7 vD8 vD9 vD10 vD11 vD12 vD13 vD14 vD15 vD16 vD17 vD18 vD19 vD20 vD21 vD22) H := hP
        have hD : va_D A (wMD cC cI aD (upd (upd (upd (upd c0_0 (((60 : Int32) * y1) + q12).toNatClampNeg y3) ((120 : Int32) + (((60 : Int32) * y1) + q12)).toNatClampNeg (0 : Int32)) ((240 : Int32) + (((60 : Int32) * y1) + q12)).toNatClampNeg ((upd (upd c0_0 (((60 : Int32) * y1) + q12).toNatClampNeg y3) ((120 : Int32) + (((60 : Int32) * y1) + q12)).toNatClampNeg (0 : Int32)) ((362 : Int32) + y1).toNatClampNeg)) ((360 : Int32) + y1).toNatClampNeg (((upd (upd (upd c0_0 (((60 : Int32) * y1) + q12).toNatClampNeg y3) ((120 : Int32) + (((60 : Int32) * y1) + q12)).toNatClampNeg (0 : Int32)) ((240 : Int32) + (((60 : Int32) * y1) + q12)).toNatClampNeg ((upd (upd c0_0 (((60 : Int32) * y1) + q12).toNatClampNeg y3) ((120 : Int32) + (((60 : Int32) * y1) + q12)).toNatClampNeg (0 : Int32)) ((362 : Int32) + y1).toNatClampNeg)) ((360 : Int32) + y1).toNatClampNeg) + (1 : Int32))) c0_1 c0_2 vD3 vD4 vD5 vD6 vD7 vD8 vD9 vD10 vD11 vD12 vD13 vD14 vD15 vD16 vD17 vD18 vD19 vD20 vD21 vD22) := hD
        refine lv_aload_n hx hb dX10_addChapter_156 rfl (lv_at hl 1 rfl) ?_
        refine lv_iconst (v := (1 : Int32)) hx hb dX10_addChapter_157 (by decide) ?_
        refine lv_iload_n hx hb dX10_addChapter_158 rfl (lv_at hl 2 rfl) ?_
        refine lv_isub hx hb dX10_addChapter_159 ?_
        refine lv_iload_n hx hb dX10_addChapter_160 rfl (lv_at hl 2 rfl) ?_
        obtain ⟨q14, h13, h⟩ := Option.bind_eq_some_iff.mp h
        refine kcvw (ws' := (wMD cC cI aD q14 c0_1 c0_2 vD3 vD4 vD5 vD6 vD7 vD8 vD9 vD10 vD11 vD12 vD13 vD14 vD15 vD16 vD17 vD18 vD19 vD20 vD21 vD22)) [0, 1, 2, 3, 4, 5, 6, 7, 8, 9, 10] (va_runV (As := [.int ((1 : Int32) - y1), .int y1]) (rest := []) ⟨hx, hb, hml, hown, hts⟩ (kX10_addGroup l D cI cC cS aD (upd (upd (upd (upd c0_0 (((60 : Int32) * y1) + q12).toNatClampNeg y3) ((120 : Int32) + (((60 : Int32) * y1) + q12)).toNatClampNeg (0 : Int32)) ((240 : Int32) + (((60 : Int32) * y1) + q12)).toNatClampNeg ((upd (upd c0_0 (((60 : Int32) * y1) + q12).toNatClampNeg y3) ((120 : Int32) + (((60 : Int32) * y1) + q12)).toNatClampNeg (0 : Int32)) ((362 : Int32) + y1).toNatClampNeg)) ((360 : Int32) + y1).toNatClampNeg (((upd (upd (upd c0_0 (((60 : Int32) * y1) + q12).toNatClampNeg y3) ((120 : Int32) + (((60 : Int32) * y1) + q12)).toNatClampNeg (0 : Int32)) ((240 : Int32) + (((60 : Int32) * y1) + q12)).toNatClampNeg ((upd (upd c0_0 (((60 : Int32) * y1) + q12).toNatClampNeg y3) ((120 : Int32) + (((60 : Int32) * y1) + q12)).toNatClampNeg (0 : Int32)) ((362 : Int32) + y1).toNatClampNeg)) ((360 : Int32) + y1).toNatClampNeg) + (1 : Int32))) c0_1 c0_2 vD3 vD4 vD5 vD6 vD7 vD8 vD9 vD10 vD11 vD12 vD13 vD14 vD15 vD16 vD17 vD18 vD19 vD20 vD21 vD22 ((1 : Int32) - y1) y1 H.size h13) (cwV 2 hts gX10_addChapter_X10_addGroup rfl rfl rfl (by decide +kernel) ⟨Nat.le_of_ble_eq_true rfl, Nat.le_of_ble_eq_true rfl⟩) (kpreV hK hN hP hD [0, 1, 2, 3, 4, 5, 6, 7, 8, 9, 10] rfl (by decide) 10 rfl rfl) rfl rfl hl.1 rfl (lv_room (Nat.le_of_ble_eq_true rfl)) dX10_addChapter_161 ⟨Nat.le_refl _, Nat.le_refl _⟩) hP hD hS hA rfl (by decide) rfl [1, 2, 3, 4, 5, 6, 7, 8, 9, 10, 11] (by decide +kernel) rfl (fun H locs hP hD hS => ?_)
        refine lv_iinc (v := (y4 + (1 : Int32))) (lv' := [(4, .int (y4 + (1 : Int32))), (5, .int (((60 : Int32) * y1) + q12)), (0, .ref aD.1), (1, .int y1), (2, .int y2), (3, .int y3)]) hx hb dX10_addChapter_164 hl (k := 5) rfl rfl (by decide) rfl (fun ls hl => ?_)
        refine lv_goto (tgt := 84) hx hb dX10_addChapter_167 (by decide) ?_
        exact ihL84 q14 c0_1 c0_2 y1 y2 y3 (y4 + (1 : Int32)) _ _ _ h hP hD hS (lv_sub hl [2, 3, 4, 5, 0] rfl)
  unfold pX10_addChapter at h
  refine lv_iload_n hx hb dX10_addChapter_0 rfl (lv_at hl 1 rfl) ?_
  obtain ⟨q2, h1, h⟩ := Option.bind_eq_some_iff.mp h
  refine kcir [] (va_runS (As := [.int i1]) (rest := []) ⟨hx, hb, hml, hown, hts⟩ (kX10_noBook l D cI cC cS i1 s.heap.size h1) (cwS 1 hts gX10_addChapter_X10_noBook rfl rfl rfl (by decide +kernel) ⟨Nat.le_of_ble_eq_true rfl, Nat.le_of_ble_eq_true rfl⟩) (kpre hK hN hP hD [] rfl (by decide)) rfl rfl hl.1 rfl (lv_room (Nat.le_of_ble_eq_true rfl)) dX10_addChapter_1 ⟨Nat.le_refl _, Nat.le_refl _⟩) hP hD hS hA rfl (fun H locs hP hS => ?_)
  refine lv_if_eq (tgt := 9) hx hb dX10_addChapter_4 (by decide) (fun g => ?_) (fun g => ?_)
  · rw [if_pos g] at h
    refine lv_iload_n hx hb dX10_addChapter_9 rfl (lv_at hl 2 rfl) ?_
    refine lv_iconst (v := (1 : Int32)) hx hb dX10_addChapter_10 (by decide) ?_
    refine lv_bipush (v := (60 : Int32)) hx hb dX10_addChapter_11 (by decide) ?_
    obtain ⟨q4, h3, h⟩ := Option.bind_eq_some_iff.mp h
    refine kcir [] (va_runS (As := [.int i2, .int (1 : Int32), .int (60 : Int32)]) (rest := []) ⟨hx, hb, hml, hown, hts⟩ (kX10_in l D cI cC cS i2 (1 : Int32) (60 : Int32) H.size h3) (cwS 3 hts gX10_addChapter_X10_in rfl rfl rfl (by decide +kernel) ⟨Nat.le_of_ble_eq_true rfl, Nat.le_of_ble_eq_true rfl⟩) (kpre hK hN hP hD [] rfl (by decide)) rfl rfl hl.1 rfl (lv_room (Nat.le_of_ble_eq_true rfl)) dX10_addChapter_13 ⟨Nat.le_refl _, Nat.le_refl _⟩) hP hD hS hA rfl (fun H locs hP hS => ?_)
    refine lv_if_eq (tgt := 30) hx hb dX10_addChapter_16 (by decide) (fun g => ?_) (fun g => ?_)
    · rw [if_pos g] at h
      refine lv_bipush (v := (-2 : Int32)) hx hb dX10_addChapter_30 (by decide) ?_
      obtain rfl := Option.some.inj h
      exact W.iret (v := (-2 : Int32)) hx hb hr (fun t ht hW => ⟨⟨_, (), rfl, rfl, by rw [ht]; exact hP, hD⟩, hS.F ht⟩) hS.2.2 dX10_addChapter_32
    · rw [if_neg g] at h
      refine lv_iload_n hx hb dX10_addChapter_19 rfl (lv_at hl 3 rfl) ?_
      refine lv_iconst (v := (1 : Int32)) hx hb dX10_addChapter_20 (by decide) ?_
      refine lv_sipush (v := (2000 : Int32)) hx hb dX10_addChapter_21 (by decide) ?_
      obtain ⟨q6, h5, h⟩ := Option.bind_eq_some_iff.mp h
      refine kcir [] (va_runS (As := [.int i3, .int (1 : Int32), .int (2000 : Int32)]) (rest := []) ⟨hx, hb, hml, hown, hts⟩ (kX10_in l D cI cC cS i3 (1 : Int32) (2000 : Int32) H.size h5) (cwS 3 hts gX10_addChapter_X10_in rfl rfl rfl (by decide +kernel) ⟨Nat.le_of_ble_eq_true rfl, Nat.le_of_ble_eq_true rfl⟩) (kpre hK hN hP hD [] rfl (by decide)) rfl rfl hl.1 rfl (lv_room (Nat.le_of_ble_eq_true rfl)) dX10_addChapter_24 ⟨Nat.le_refl _, Nat.le_refl _⟩) hP hD hS hA rfl (fun H locs hP hS => ?_)
      refine lv_if_ne (tgt := 33) hx hb dX10_addChapter_27 (by decide) (fun g => ?_) (fun g => ?_)
      · rw [if_neg g] at h
        refine lv_aload_n hx hb dX10_addChapter_33 rfl (lv_at hl 0 rfl) ?_
        refine va_get (D := D) (ci := 10) (v := .ref aD.2.1) (C := RX10) (T := TX10) (N := 23) hx hb hts huX10 hown hK hP 0 rfl rfl 0 (by decide) (hts (.fieldLink RX10 7 "VerseColumnsModel" "row" "[I") (by decide +kernel)) (fun _ h9 => h9) rfl dX10_addChapter_34 ?_
        refine lv_sipush (v := (362 : Int32)) hx hb dX10_addChapter_37 (by decide) ?_
        refine lv_iload_n hx hb dX10_addChapter_40 rfl (lv_at hl 1 rfl) ?_
        refine lv_iadd hx hb dX10_addChapter_41 ?_
        obtain ⟨g, h⟩ := kif h
        refine va_iald hx hb hK hP 1 0 rfl rfl (kin g) dX10_addChapter_42 ?_
        refine lv_bipush (v := (10 : Int32)) hx hb dX10_addChapter_43 (by decide) ?_
        refine lv_icmp_eq (tgt := 60) hx hb dX10_addChapter_45 (by decide) (fun g => ?_) (fun g => ?_)
        · rw [if_pos g] at h
          refine lv_bipush (v := (-3 : Int32)) hx hb dX10_addChapter_60 (by decide) ?_
          obtain rfl := Option.some.inj h
          exact W.iret (v := (-3 : Int32)) hx hb hr (fun t ht hW => ⟨⟨_, (), rfl, rfl, by rw [ht]; exact hP, hD⟩, hS.F ht⟩) hS.2.2 dX10_addChapter_62
        · rw [if_neg g] at h
          refine lv_aload_n hx hb dX10_addChapter_48 rfl (lv_at hl 0 rfl) ?_
          refine lv_iload_n hx hb dX10_addChapter_49 rfl (lv_at hl 1 rfl) ?_
          obtain ⟨q8, h7, h⟩ := Option.bind_eq_some_iff.mp h
          refine kcir [0, 1, 2, 3, 4, 5, 6, 7, 8, 9, 10] (va_runV (As := [.int i1]) (rest := []) ⟨hx, hb, hml, hown, hts⟩ (kX10_size l D cI cC cS aD vD0 vD1 vD2 vD3 vD4 vD5 vD6 vD7 vD8 vD9 vD10 vD11 vD12 vD13 vD14 vD15 vD16 vD17 vD18 vD19 vD20 vD21 vD22 i1 H.size h7) (cwV 1 hts gX10_addChapter_X10_size rfl rfl rfl (by decide +kernel) ⟨Nat.le_of_ble_eq_true rfl, Nat.le_of_ble_eq_true rfl⟩) (kpreV hK hN hP hD [0, 1, 2, 3, 4, 5, 6, 7, 8, 9, 10] rfl (by decide) 10 rfl rfl) rfl rfl hl.1 rfl (lv_room (Nat.le_of_ble_eq_true rfl)) dX10_addChapter_50 ⟨Nat.le_refl _, Nat.le_refl _⟩) hP hD hS hA rfl (fun H locs hP hS => ?_)
          refine lv_iload_n hx hb dX10_addChapter_53 rfl (lv_at hl 2 rfl) ?_
          refine lv_iadd hx hb dX10_addChapter_54 ?_
          refine lv_bipush (v := (60 : Int32)) hx hb dX10_addChapter_55 (by decide) ?_
          refine lv_icmp_le (tgt := 63) hx hb dX10_addChapter_57 (by decide) (fun g => ?_) (fun g => ?_)
          · rw [if_pos g] at h
            refine lv_aload_n hx hb dX10_addChapter_63 rfl (lv_at hl 0 rfl) ?_
            obtain ⟨q10, h9, h⟩ := Option.bind_eq_some_iff.mp h
            refine kcvw (ws' := (wMD cC cI aD vD0 q10.1 q10.2 vD3 vD4 vD5 vD6 vD7 vD8 vD9 vD10 vD11 vD12 vD13 vD14 vD15 vD16 vD17 vD18 vD19 vD20 vD21 vD22)) [0, 1, 2, 3, 4, 5, 6, 7, 8, 9, 10] (va_runV (As := []) (rest := []) ⟨hx, hb, hml, hown, hts⟩ (kX10_record l D cI cC cS aD vD0 vD1 vD2 vD3 vD4 vD5 vD6 vD7 vD8 vD9 vD10 vD11 vD12 vD13 vD14 vD15 vD16 vD17 vD18 vD19 vD20 vD21 vD22 H.size h9) (cwV 0 hts gX10_addChapter_X10_record rfl rfl rfl (by decide +kernel) ⟨Nat.le_of_ble_eq_true rfl, Nat.le_of_ble_eq_true rfl⟩) (kpreV hK hN hP hD [0, 1, 2, 3, 4, 5, 6, 7, 8, 9, 10] rfl (by decide) 10 rfl rfl) rfl rfl hl.1 rfl (lv_room (Nat.le_of_ble_eq_true rfl)) dX10_addChapter_64 ⟨Nat.le_refl _, Nat.le_refl _⟩) hP hD hS hA rfl (by decide) rfl [1, 2, 3, 4, 5, 6, 7, 8, 9, 10, 11] (by decide +kernel) rfl (fun H locs hP hD hS => ?_)
            refine lv_aload_n hx hb dX10_addChapter_67 rfl (lv_at hl 0 rfl) ?_
            refine va_get (D := D) (ci := 10) (v := .ref aD.2.1) (C := RX10) (T := TX10) (N := 23) hx hb hts huX10 hown hK hP 0 rfl rfl 0 (by decide) (hts (.fieldLink RX10 7 "VerseColumnsModel" "row" "[I") (by decide +kernel)) (fun _ h9 => h9) rfl dX10_addChapter_68 ?_
            refine lv_sipush (v := (362 : Int32)) hx hb dX10_addChapter_71 (by decide) ?_
            refine lv_iload_n hx hb dX10_addChapter_74 rfl (lv_at hl 1 rfl) ?_
            refine lv_iadd hx hb dX10_addChapter_75 ?_
            refine lv_dup2_11 hx hb dX10_addChapter_76 rfl rfl ?_
            obtain ⟨g, h⟩ := kif h
            refine va_iald hx hb hK hP 1 0 rfl rfl (kin g) dX10_addChapter_77 ?_
            refine lv_iconst (v := (1 : Int32)) hx hb dX10_addChapter_78 (by decide) ?_
            refine lv_iadd hx hb dX10_addChapter_79 ?_
            obtain ⟨g, h⟩ := kif h
            refine va_iast hx hb hK hP hD hS 1 0 rfl rfl (kin g) dX10_addChapter_80 (fun H locs hP hD hS => ?_)
            have hP : va_P D vwCl (wMD cC cI aD (upd vD0 ((362 : Int32) + i1).toNatClampNeg ((vD0 ((362 : Int32) + i1).toNatClampNeg) + (1 : Int32))) q10.1 q10.2 vD3 vD4 vD5 vD6 vD7 vD8 vD9 vD10 vD11 vD12 vD13 vD14 vD15 vD16 vD17 vD18 vD19 vD20 vD21 vD22) H := hP
            have hD : va_D A (wMD cC cI aD (upd vD0 ((362 : Int32) + i1).toNatClampNeg ((vD0 ((362 : Int32) + i1).toNatClampNeg) + (1 : Int32))) q10.1 q10.2 vD3 vD4 vD5 vD6 vD7 vD8 vD9 vD10 vD11 vD12 vD13 vD14 vD15 vD16 vD17 vD18 vD19 vD20 vD21 vD22) := hD
            refine lv_iconst (v := (0 : Int32)) hx hb dX10_addChapter_81 (by decide) ?_
            refine lv_istore (lv' := [(4, .int (0 : Int32)), (0, .ref aD.1), (1, .int i1), (2, .int i2), (3, .int i3)]) hx hb dX10_addChapter_82 hl (by decide) rfl (fun ls hl => ?_)
            exact L84 4000 (upd vD0 ((362 : Int32) + i1).toNatClampNeg ((vD0 ((362 : Int32) + i1).toNatClampNeg) + (1 : Int32))) q10.1 q10.2 i1 i2 i3 (0 : Int32) _ _ _ h hP hD hS (lv_sub hl [1, 2, 3, 4, 0] rfl)
          · rw [if_neg g] at h
            refine lv_bipush (v := (-3 : Int32)) hx hb dX10_addChapter_60 (by decide) ?_
            obtain rfl := Option.some.inj h
            exact W.iret (v := (-3 : Int32)) hx hb hr (fun t ht hW => ⟨⟨_, (), rfl, rfl, by rw [ht]; exact hP, hD⟩, hS.F ht⟩) hS.2.2 dX10_addChapter_62
      · rw [if_pos g] at h
        refine lv_bipush (v := (-2 : Int32)) hx hb dX10_addChapter_30 (by decide) ?_
        obtain rfl := Option.some.inj h
        exact W.iret (v := (-2 : Int32)) hx hb hr (fun t ht hW => ⟨⟨_, (), rfl, rfl, by rw [ht]; exact hP, hD⟩, hS.F ht⟩) hS.2.2 dX10_addChapter_32
  · rw [if_neg g] at h
    refine lv_iconst (v := (-1 : Int32)) hx hb dX10_addChapter_7 (by decide) ?_
    obtain rfl := Option.some.inj h
    exact W.iret (v := (-1 : Int32)) hx hb hr (fun t ht hW => ⟨⟨_, (), rfl, rfl, by rw [ht]; exact hP, hD⟩, hS.F ht⟩) hS.2.2 dX10_addChapter_8
set_option maxHeartbeats 8000000 in
set_option maxRecDepth 100000 in
theorem kX10_setVerse (l : Launch) (D : va_G) (cI cC cS : ClassId) (aD : Nat × Nat × Nat × Nat × Nat × Nat × Nat × Nat × Nat × Nat × Nat) (vD0 : (Nat → Int32)) (vD1 : (Nat → Int32)) (vD2 : Int32) (vD3 : Int32) (vD4 : (Nat → Int32)) (vD5 : Int32) (vD6 : Int32) (vD7 : Int32) (vD8 : Int32) (vD9 : Int32) (vD10 : Int32) (vD11 : (Nat → Int32)) (vD12 : (Nat → Int32)) (vD13 : Int32) (vD14 : Int32) (vD15 : (Nat → Int32)) (vD16 : Int32) (vD17 : Int32) (vD18 : Int32) (vD19 : (Nat → Int32)) (vD20 : (Nat → Int32)) (vD21 : (Nat → Int32)) (vD22 : (Nat → Int32)) (i1 : Int32) (i2 : Int32) (i3 : Int32) (i4 : Int32) (sz : Nat) {q : Int32 × (Nat → Int32) × (Nat → Int32) × Int32} (h : pX10_setVerse vD0 vD1 vD2 i1 i2 i3 i4 = some q) : kMi l yX10_setVerse wsX10_setVerse ({ frames := 3, cells := 0, slots := 0, locals := 64 } : Room) D (kTy cI cC cS) [.ref aD.1, .int i1, .int i2, .int i3, .int i4] (wMD cC cI aD vD0 vD1 vD2 vD3 vD4 vD5 vD6 vD7 vD8 vD9 vD10 vD11 vD12 vD13 vD14 vD15 vD16 vD17 vD18 vD19 vD20 vD21 vD22) sz q.1 (wMD cC cI aD q.2.1 q.2.2.1 q.2.2.2 vD3 vD4 vD5 vD6 vD7 vD8 vD9 vD10 vD11 vD12 vD13 vD14 vD15 vD16 vD17 vD18 vD19 vD20 vD21 vD22) := by
  refine Met.ofW (cc := cX10_setVerse) (maxL := 7) (ret := (some .int)) (by decide) rfl ?_
  intro p e s m args below meth c s₁ B hml hv
  obtain ⟨rfl, hsz, hP, hK, hD0, hN⟩ := hv
  have hx := B.exec
  have hb := B.bytes
  have hr := B.returns
  have hts := atoms_spec (ws := wsX10_setVerse) B.pre
  have hown : s.vm.findClass RX10 = some m.cls := findClass_of_methodNamed B.named
  have hlocks := B.notSynchronized
  subst hsz
  have hD := hD0.self (sz := s.heap.size)
  generalize hAe : va_A (wMD cC cI aD vD0 vD1 vD2 vD3 vD4 vD5 vD6 vD7 vD8 vD9 vD10 vD11 vD12 vD13 vD14 vD15 vD16 vD17 vD18 vD19 vD20 vD21 vD22) s.heap.size = A at hD ⊢
  have hA : ∀ q : Nat, s.heap.size ≤ q → A q := fun q h => by rw [← hAe]; exact Or.inr h
  have hS : va_S A s.heap s.heap [] := va_S.rf
  have huX10 : ∀ w ∈ u_ws RX10 TX10 23, w ∈ wsX10_setVerse := by decide +kernel
  have hl := lv_entry ([.ref aD.1, .int i1, .int i2, .int i3, .int i4]) (n := 7) (Nat.le_of_ble_eq_true rfl)
  rw [lg_entry_eq]
  generalize (lg_sl ([.ref aD.1, .int i1, .int i2, .int i3, .int i4]) ++ List.replicate (7 - (lg_sl ([.ref aD.1, .int i1, .int i2, .int i3, .int i4])).length) Slot.unset).toArray = ls at hl ⊢
  have hl : lv_has ls 7 [(0, .ref aD.1), (1, .int i1), (2, .int i2), (3, .int i3), (4, .int i4)] := hl
  unfold pX10_setVerse at h
  refine lv_aload_n hx hb dX10_setVerse_0 rfl (lv_at hl 0 rfl) ?_
  refine lv_iload_n hx hb dX10_setVerse_1 rfl (lv_at hl 1 rfl) ?_
  refine lv_iload_n hx hb dX10_setVerse_2 rfl (lv_at hl 2 rfl) ?_
  obtain ⟨q2, h1, h⟩ := Option.bind_eq_some_iff.mp h
  refine kcir [0, 1, 2, 3, 4, 5, 6, 7, 8, 9, 10] (va_runV (As := [.int i1, .int i2]) (rest := []) ⟨hx, hb, hml, hown, hts⟩ (kX10_noVerse l D cI cC cS aD vD0 vD1 vD2 vD3 vD4 vD5 vD6 vD7 vD8 vD9 vD10 vD11 vD12 vD13 vD14 vD15 vD16 vD17 vD18 vD19 vD20 vD21 vD22 i1 i2 s.heap.size h1) (cwV 2 hts gX10_setVerse_X10_noVerse rfl rfl rfl (by decide +kernel) ⟨Nat.le_of_ble_eq_true rfl, Nat.le_of_ble_eq_true rfl⟩) (kpreV hK hN hP hD [0, 1, 2, 3, 4, 5, 6, 7, 8, 9, 10] rfl (by decide) 10 rfl rfl) rfl rfl hl.1 rfl (lv_room (Nat.le_of_ble_eq_true rfl)) dX10_setVerse_3 ⟨Nat.le_refl _, Nat.le_refl _⟩) hP hD hS hA rfl (fun H locs hP hS => ?_)
  refine lv_if_eq (tgt := 11) hx hb dX10_setVerse_6 (by decide) (fun g => ?_) (fun g => ?_)
  · rw [if_pos g] at h
    refine lv_iload_n hx hb dX10_setVerse_11 rfl (lv_at hl 3 rfl) ?_
    refine lv_iconst (v := (1 : Int32)) hx hb dX10_setVerse_12 (by decide) ?_
    refine lv_sipush (v := (2000 : Int32)) hx hb dX10_setVerse_13 (by decide) ?_
    obtain ⟨q4, h3, h⟩ := Option.bind_eq_some_iff.mp h
    refine kcir [] (va_runS (As := [.int i3, .int (1 : Int32), .int (2000 : Int32)]) (rest := []) ⟨hx, hb, hml, hown, hts⟩ (kX10_in l D cI cC cS i3 (1 : Int32) (2000 : Int32) H.size h3) (cwS 3 hts gX10_setVerse_X10_in rfl rfl rfl (by decide +kernel) ⟨Nat.le_of_ble_eq_true rfl, Nat.le_of_ble_eq_true rfl⟩) (kpre hK hN hP hD [] rfl (by decide)) rfl rfl hl.1 rfl (lv_room (Nat.le_of_ble_eq_true rfl)) dX10_setVerse_16 ⟨Nat.le_refl _, Nat.le_refl _⟩) hP hD hS hA rfl (fun H locs hP hS => ?_)
    refine lv_if_eq (tgt := 33) hx hb dX10_setVerse_19 (by decide) (fun g => ?_) (fun g => ?_)
    · rw [if_pos g] at h
      refine lv_bipush (v := (-2 : Int32)) hx hb dX10_setVerse_33 (by decide) ?_
      obtain rfl := Option.some.inj h
      exact W.iret (v := (-2 : Int32)) hx hb hr (fun t ht hW => ⟨⟨_, (), rfl, rfl, by rw [ht]; exact hP, hD⟩, hS.F ht⟩) hS.2.2 dX10_setVerse_35
    · rw [if_neg g] at h
      refine lv_iload hx hb dX10_setVerse_22 (lv_at hl 4 rfl) ?_
      refine lv_iconst (v := (0 : Int32)) hx hb dX10_setVerse_24 (by decide) ?_
      refine lv_bipush (v := (10 : Int32)) hx hb dX10_setVerse_25 (by decide) ?_
      obtain ⟨q6, h5, h⟩ := Option.bind_eq_some_iff.mp h
      refine kcir [] (va_runS (As := [.int i4, .int (0 : Int32), .int (10 : Int32)]) (rest := []) ⟨hx, hb, hml, hown, hts⟩ (kX10_in l D cI cC cS i4 (0 : Int32) (10 : Int32) H.size h5) (cwS 3 hts gX10_setVerse_X10_in rfl rfl rfl (by decide +kernel) ⟨Nat.le_of_ble_eq_true rfl, Nat.le_of_ble_eq_true rfl⟩) (kpre hK hN hP hD [] rfl (by decide)) rfl rfl hl.1 rfl (lv_room (Nat.le_of_ble_eq_true rfl)) dX10_setVerse_27 ⟨Nat.le_refl _, Nat.le_refl _⟩) hP hD hS hA rfl (fun H locs hP hS => ?_)
      refine lv_if_ne (tgt := 36) hx hb dX10_setVerse_30 (by decide) (fun g => ?_) (fun g => ?_)
      · rw [if_neg g] at h
        refine lv_aload_n hx hb dX10_setVerse_36 rfl (lv_at hl 0 rfl) ?_
        obtain ⟨q8, h7, h⟩ := Option.bind_eq_some_iff.mp h
        refine kcvw (ws' := (wMD cC cI aD vD0 q8.1 q8.2 vD3 vD4 vD5 vD6 vD7 vD8 vD9 vD10 vD11 vD12 vD13 vD14 vD15 vD16 vD17 vD18 vD19 vD20 vD21 vD22)) [0, 1, 2, 3, 4, 5, 6, 7, 8, 9, 10] (va_runV (As := []) (rest := []) ⟨hx, hb, hml, hown, hts⟩ (kX10_record l D cI cC cS aD vD0 vD1 vD2 vD3 vD4 vD5 vD6 vD7 vD8 vD9 vD10 vD11 vD12 vD13 vD14 vD15 vD16 vD17 vD18 vD19 vD20 vD21 vD22 H.size h7) (cwV 0 hts gX10_setVerse_X10_record rfl rfl rfl (by decide +kernel) ⟨Nat.le_of_ble_eq_true rfl, Nat.le_of_ble_eq_true rfl⟩) (kpreV hK hN hP hD [0, 1, 2, 3, 4, 5, 6, 7, 8, 9, 10] rfl (by decide) 10 rfl rfl) rfl rfl hl.1 rfl (lv_room (Nat.le_of_ble_eq_true rfl)) dX10_setVerse_37 ⟨Nat.le_refl _, Nat.le_refl _⟩) hP hD hS hA rfl (by decide) rfl [1, 2, 3, 4, 5, 6, 7, 8, 9, 10, 11] (by decide +kernel) rfl (fun H locs hP hD hS => ?_)
        refine lv_bipush (v := (60 : Int32)) hx hb dX10_setVerse_40 (by decide) ?_
        refine lv_iload_n hx hb dX10_setVerse_42 rfl (lv_at hl 1 rfl) ?_
        refine lv_imul hx hb dX10_setVerse_43 ?_
        refine lv_iload_n hx hb dX10_setVerse_44 rfl (lv_at hl 2 rfl) ?_
        refine lv_iadd hx hb dX10_setVerse_45 ?_
        refine lv_istore (lv' := [(5, .int (((60 : Int32) * i1) + i2)), (0, .ref aD.1), (1, .int i1), (2, .int i2), (3, .int i3), (4, .int i4)]) hx hb dX10_setVerse_46 hl (by decide) rfl (fun ls hl => ?_)
        refine lv_aload_n hx hb dX10_setVerse_48 rfl (lv_at hl 1 rfl) ?_
        refine va_get (D := D) (ci := 10) (v := .ref aD.2.1) (C := RX10) (T := TX10) (N := 23) hx hb hts huX10 hown hK hP 0 rfl rfl 0 (by decide) (hts (.fieldLink RX10 7 "VerseColumnsModel" "row" "[I") (by decide +kernel)) (fun _ h9 => h9) rfl dX10_setVerse_49 ?_
        refine lv_iload hx hb dX10_setVerse_52 (lv_at hl 0 rfl) ?_
        obtain ⟨g, h⟩ := kif h
        refine va_iald hx hb hK hP 1 0 rfl rfl (kin g) dX10_setVerse_54 ?_
        refine lv_istore (lv' := [(6, .int (vD0 (((60 : Int32) * i1) + i2).toNatClampNeg)), (5, .int (((60 : Int32) * i1) + i2)), (0, .ref aD.1), (1, .int i1), (2, .int i2), (3, .int i3), (4, .int i4)]) hx hb dX10_setVerse_55 hl (by decide) rfl (fun ls hl => ?_)
        refine lv_aload_n hx hb dX10_setVerse_57 rfl (lv_at hl 2 rfl) ?_
        refine va_get (D := D) (ci := 10) (v := .ref aD.2.1) (C := RX10) (T := TX10) (N := 23) hx hb hts huX10 hown hK hP 0 rfl rfl 0 (by decide) (hts (.fieldLink RX10 7 "VerseColumnsModel" "row" "[I") (by decide +kernel)) (fun _ h9 => h9) rfl dX10_setVerse_58 ?_
        refine lv_iload hx hb dX10_setVerse_61 (lv_at hl 1 rfl) ?_
        refine lv_iload_n hx hb dX10_setVerse_63 rfl (lv_at hl 5 rfl) ?_
        obtain ⟨g, h⟩ := kif h
        refine va_iast hx hb hK hP hD hS 1 0 rfl rfl (kin g) dX10_setVerse_64 (fun H locs hP hD hS => ?_)
        have hP : va_P D vwCl (wMD cC cI aD (upd vD0 (((60 : Int32) * i1) + i2).toNatClampNeg i3) q8.1 q8.2 vD3 vD4 vD5 vD6 vD7 vD8 vD9 vD10 vD11 vD12 vD13 vD14 vD15 vD16 vD17 vD18 vD19 vD20 vD21 vD22) H := hP
        have hD : va_D A (wMD cC cI aD (upd vD0 (((60 : Int32) * i1) + i2).toNatClampNeg i3) q8.1 q8.2 vD3 vD4 vD5 vD6 vD7 vD8 vD9 vD10 vD11 vD12 vD13 vD14 vD15 vD16 vD17 vD18 vD19 vD20 vD21 vD22) := hD
        refine lv_aload_n hx hb dX10_setVerse_65 rfl (lv_at hl 2 rfl) ?_
        refine va_get (D := D) (ci := 10) (v := .ref aD.2.1) (C := RX10) (T := TX10) (N := 23) hx hb hts huX10 hown hK hP 0 rfl rfl 0 (by decide) (hts (.fieldLink RX10 7 "VerseColumnsModel" "row" "[I") (by decide +kernel)) (fun _ h9 => h9) rfl dX10_setVerse_66 ?_
        refine lv_bipush (v := (120 : Int32)) hx hb dX10_setVerse_69 (by decide) ?_
        refine lv_iload hx hb dX10_setVerse_71 (lv_at hl 1 rfl) ?_
        refine lv_iadd hx hb dX10_setVerse_73 ?_
        refine lv_iload hx hb dX10_setVerse_74 (lv_at hl 6 rfl) ?_
        obtain ⟨g, h⟩ := kif h
        refine va_iast hx hb hK hP hD hS 1 0 rfl rfl (kin g) dX10_setVerse_76 (fun H locs hP hD hS => ?_)
        have hP : va_P D vwCl (wMD cC cI aD (upd (upd vD0 (((60 : Int32) * i1) + i2).toNatClampNeg i3) ((120 : Int32) + (((60 : Int32) * i1) + i2)).toNatClampNeg i4) q8.1 q8.2 vD3 vD4 vD5 vD6 vD7 vD8 vD9 vD10 vD11 vD12 vD13 vD14 vD15 vD16 vD17 vD18 vD19 vD20 vD21 vD22) H := hP
        have hD : va_D A (wMD cC cI aD (upd (upd vD0 (((60 : Int32) * i1) + i2).toNatClampNeg i3) ((120 : Int32) + (((60 : Int32) * i1) + i2)).toNatClampNeg i4) q8.1 q8.2 vD3 vD4 vD5 vD6 vD7 vD8 vD9 vD10 vD11 vD12 vD13 vD14 vD15 vD16 vD17 vD18 vD19 vD20 vD21 vD22) := hD
        refine lv_iload hx hb dX10_setVerse_77 (lv_at hl 0 rfl) ?_
        obtain rfl := Option.some.inj h
        exact W.iret (v := (vD0 (((60 : Int32) * i1) + i2).toNatClampNeg)) hx hb hr (fun t ht hW => ⟨⟨_, (), rfl, rfl, by rw [ht]; exact hP, hD⟩, hS.F ht⟩) hS.2.2 dX10_setVerse_79
      · rw [if_pos g] at h
        refine lv_bipush (v := (-2 : Int32)) hx hb dX10_setVerse_33 (by decide) ?_
        obtain rfl := Option.some.inj h
        exact W.iret (v := (-2 : Int32)) hx hb hr (fun t ht hW => ⟨⟨_, (), rfl, rfl, by rw [ht]; exact hP, hD⟩, hS.F ht⟩) hS.2.2 dX10_setVerse_35
  · rw [if_neg g] at h
    refine lv_iconst (v := (-1 : Int32)) hx hb dX10_setVerse_9 (by decide) ?_
    obtain rfl := Option.some.inj h
    exact W.iret (v := (-1 : Int32)) hx hb hr (fun t ht hW => ⟨⟨_, (), rfl, rfl, by rw [ht]; exact hP, hD⟩, hS.F ht⟩) hS.2.2 dX10_setVerse_10
set_option maxHeartbeats 8000000 in
set_option maxRecDepth 100000 in
theorem kX10_firstIn (l : Launch) (D : va_G) (cI cC cS : ClassId) (aD : Nat × Nat × Nat × Nat × Nat × Nat × Nat × Nat × Nat × Nat × Nat) (vD0 : (Nat → Int32)) (vD1 : (Nat → Int32)) (vD2 : Int32) (vD3 : Int32) (vD4 : (Nat → Int32)) (vD5 : Int32) (vD6 : Int32) (vD7 : Int32) (vD8 : Int32) (vD9 : Int32) (vD10 : Int32) (vD11 : (Nat → Int32)) (vD12 : (Nat → Int32)) (vD13 : Int32) (vD14 : Int32) (vD15 : (Nat → Int32)) (vD16 : Int32) (vD17 : Int32) (vD18 : Int32) (vD19 : (Nat → Int32)) (vD20 : (Nat → Int32)) (vD21 : (Nat → Int32)) (vD22 : (Nat → Int32)) (i1 : Int32) (i2 : Int32) (sz : Nat) {q : Int32} (h : pX10_firstIn vD0 i1 i2 = some q) : kMi l yX10_firstIn wsX10_firstIn ({ frames := 1, cells := 0, slots := 0, locals := 22 } : Room) D (kTy cI cC cS) [.ref aD.1, .int i1, .int i2] (wMD cC cI aD vD0 vD1 vD2 vD3 vD4 vD5 vD6 vD7 vD8 vD9 vD10 vD11 vD12 vD13 vD14 vD15 vD16 vD17 vD18 vD19 vD20 vD21 vD22) sz q (wMD cC cI aD vD0 vD1 vD2 vD3 vD4 vD5 vD6 vD7 vD8 vD9 vD10 vD11 vD12 vD13 vD14 vD15 vD16 vD17 vD18 vD19 vD20 vD21 vD22) := by
  refine Met.ofW (cc := cX10_firstIn) (maxL := 5) (ret := (some .int)) (by decide) rfl ?_
  intro p e s m args below meth c s₁ B hml hv
  obtain ⟨rfl, hsz, hP, hK, hD0, hN⟩ := hv
  have hx := B.exec
  have hb := B.bytes
  have hr := B.returns
  have hts := atoms_spec (ws := wsX10_firstIn) B.pre
  have hown : s.vm.findClass RX10 = some m.cls := findClass_of_methodNamed B.named
  have hlocks := B.notSynchronized
  subst hsz
  have hD := hD0.self (sz := s.heap.size)
  generalize hAe : va_A (wMD cC cI aD vD0 vD1 vD2 vD3 vD4 vD5 vD6 vD7 vD8 vD9 vD10 vD11 vD12 vD13 vD14 vD15 vD16 vD17 vD18 vD19 vD20 vD21 vD22) s.heap.size = A at hD ⊢
  have hA : ∀ q : Nat, s.heap.size ≤ q → A q := fun q h => by rw [← hAe]; exact Or.inr h
  have hS : va_S A s.heap s.heap [] := va_S.rf
  have hl := lv_entry ([.ref aD.1, .int i1, .int i2]) (n := 5) (Nat.le_of_ble_eq_true rfl)
  rw [lg_entry_eq]
  generalize (lg_sl ([.ref aD.1, .int i1, .int i2]) ++ List.replicate (5 - (lg_sl ([.ref aD.1, .int i1, .int i2])).length) Slot.unset).toArray = ls at hl ⊢
  have hl : lv_has ls 5 [(0, .ref aD.1), (1, .int i1), (2, .int i2)] := hl
  have L5 : ∀ (nL5 : Nat) (y1 : Int32) (y2 : Int32) (y3 : Int32) (y4 : Int32) (H : Heap) (locs : List Loc) (ls : Array Slot), pX10_firstIn_L5 vD0 nL5 y1 y2 y3 y4 = some q → va_P D vwCl (wMD cC cI aD vD0 vD1 vD2 vD3 vD4 vD5 vD6 vD7 vD8 vD9 vD10 vD11 vD12 vD13 vD14 vD15 vD16 vD17 vD18 vD19 vD20 vD21 vD22) H → va_S A s.heap H locs → lv_has ls 5 [(0, .ref aD.1), (1, .int y1), (2, .int y2), (3, .int y3), (4, .int y4)] → W p l e ({ frames := 1, cells := 0, slots := 0, locals := 22 } : Room) s m ([.ref aD.1, .int i1, .int i2] : List Value).toArray below meth c H locs 0 0 (MQ below (va_Qi (fun (r : Int32) (_ : Unit) => r = q) (fun _ => kPost D (wMD cC cI aD vD0 vD1 vD2 vD3 vD4 vD5 vD6 vD7 vD8 vD9 vD10 vD11 vD12 vD13 vD14 vD15 vD16 vD17 vD18 vD19 vD20 vD21 vD22) A) A) ([.ref aD.1, .int i1, .int i2] : List Value).toArray s 0 0 A) (F0 m 5 ls []) := by
    clear h hP hS hl
    intro nL5
    induction nL5 with
    | zero => intro y1 y2 y3 y4 H locs ls h; have h : (none : Option (Int32)) = some q := h; cases h
    | succ nL5 ihL5 =>
      intro y1 y2 y3 y4 H locs ls h hP hS hl
      have h : pX10_firstIn_bL5 vD0 (pX10_firstIn_L5 vD0 nL5) y1 y2 y3 y4 = some q := h
      unfold pX10_firstIn_bL5 at h
      refine lv_iload hx hb dX10_firstIn_5 (lv_at hl 4 rfl) ?_
      refine lv_iload_n hx hb dX10_firstIn_7 rfl (lv_at hl 1 rfl) ?_
      refine lv_icmp_ge (tgt := 27) hx hb dX10_firstIn_8 (by decide) (fun g => ?_) (fun g => ?_)
      · rw [if_pos g] at h
        refine lv_iload_n hx hb dX10_firstIn_27 rfl (lv_at hl 3 rfl) ?_
        obtain rfl := Option.some.inj h
        exact W.iret (v := y3) hx hb hr (fun t ht hW => ⟨⟨_, (), rfl, rfl, by rw [ht]; exact hP, hD⟩, hS.F ht⟩) hS.2.2 dX10_firstIn_28
      · rw [if_neg g] at h
        refine lv_iload_n hx hb dX10_firstIn_11 rfl (lv_at hl 3 rfl) ?_
        refine lv_aload_n hx hb dX10_firstIn_12 rfl (lv_at hl 0 rfl) ?_
        refine lv_iload hx hb dX10_firstIn_13 (lv_at hl 4 rfl) ?_
        refine lv_iload_n hx hb dX10_firstIn_15 rfl (lv_at hl 2 rfl) ?_
        obtain ⟨q2, h1, h⟩ := Option.bind_eq_some_iff.mp h
        refine kcir [0, 1, 2, 3, 4, 5, 6, 7, 8, 9, 10] (va_runV (As := [.int y4, .int y2]) (rest := [.int y3]) ⟨hx, hb, hml, hown, hts⟩ (kX10_has l D cI cC cS aD vD0 vD1 vD2 vD3 vD4 vD5 vD6 vD7 vD8 vD9 vD10 vD11 vD12 vD13 vD14 vD15 vD16 vD17 vD18 vD19 vD20 vD21 vD22 y4 y2 H.size h1) (cwV 2 hts gX10_firstIn_X10_has rfl rfl rfl (by decide +kernel) ⟨Nat.le_of_ble_eq_true rfl, Nat.le_of_ble_eq_true rfl⟩) (kpreV hK hN hP hD [0, 1, 2, 3, 4, 5, 6, 7, 8, 9, 10] rfl (by decide) 10 rfl rfl) rfl rfl hl.1 rfl (lv_room (Nat.le_of_ble_eq_true rfl)) dX10_firstIn_16 ⟨Nat.le_refl _, Nat.le_refl _⟩) hP hD hS hA rfl (fun H locs hP hS => ?_)
        refine lv_iadd hx hb dX10_firstIn_19 ?_
        refine lv_istore_n (lv' := [(3, .int (y3 + q2)), (0, .ref aD.1), (1, .int y1), (2, .int y2), (4, .int y4)]) hx hb dX10_firstIn_20 rfl hl (by decide) rfl (fun ls hl => ?_)
        refine lv_iinc (v := (y4 + (1 : Int32))) (lv' := [(4, .int (y4 + (1 : Int32))), (3, .int (y3 + q2)), (0, .ref aD.1), (1, .int y1), (2, .int y2)]) hx hb dX10_firstIn_21 hl (k := 4) rfl rfl (by decide) rfl (fun ls hl => ?_)
        refine lv_goto (tgt := 5) hx hb dX10_firstIn_24 (by decide) ?_
        exact ihL5 y1 y2 (y3 + q2) (y4 + (1 : Int32)) _ _ _ h hP hS (lv_sub hl [2, 3, 4, 1, 0] rfl)
  unfold pX10_firstIn at h
  refine lv_iconst (v := (0 : Int32)) hx hb dX10_firstIn_0 (by decide) ?_
  refine lv_istore_n (lv' := [(3, .int (0 : Int32)), (0, .ref aD.1), (1, .int i1), (2, .int i2)]) hx hb dX10_firstIn_1 rfl hl (by decide) rfl (fun ls hl => ?_)
  refine lv_iconst (v := (0 : Int32)) hx hb dX10_firstIn_2 (by decide) ?_
  refine lv_istore (lv' := [(4, .int (0 : Int32)), (3, .int (0 : Int32)), (0, .ref aD.1), (1, .int i1), (2, .int i2)]) hx hb dX10_firstIn_3 hl (by decide) rfl (fun ls hl => ?_)
  exact L5 4000 i1 i2 (0 : Int32) (0 : Int32) _ _ _ h hP hS (lv_sub hl [2, 3, 4, 1, 0] rfl)
set_option maxHeartbeats 8000000 in
set_option maxRecDepth 100000 in
theorem kX10_groupOf (l : Launch) (D : va_G) (cI cC cS : ClassId) (aD : Nat × Nat × Nat × Nat × Nat × Nat × Nat × Nat × Nat × Nat × Nat) (vD0 : (Nat → Int32)) (vD1 : (Nat → Int32)) (vD2 : Int32) (vD3 : Int32) (vD4 : (Nat → Int32)) (vD5 : Int32) (vD6 : Int32) (vD7 : Int32) (vD8 : Int32) (vD9 : Int32) (vD10 : Int32) (vD11 : (Nat → Int32)) (vD12 : (Nat → Int32)) (vD13 : Int32) (vD14 : Int32) (vD15 : (Nat → Int32)) (vD16 : Int32) (vD17 : Int32) (vD18 : Int32) (vD19 : (Nat → Int32)) (vD20 : (Nat → Int32)) (vD21 : (Nat → Int32)) (vD22 : (Nat → Int32)) (i1 : Int32) (i2 : Int32) (sz : Nat) {q : Int32} (h : pX10_groupOf vD0 i1 i2 = some q) : kMi l yX10_groupOf wsX10_groupOf ({ frames := 1, cells := 0, slots := 0, locals := 22 } : Room) D (kTy cI cC cS) [.ref aD.1, .int i1, .int i2] (wMD cC cI aD vD0 vD1 vD2 vD3 vD4 vD5 vD6 vD7 vD8 vD9 vD10 vD11 vD12 vD13 vD14 vD15 vD16 vD17 vD18 vD19 vD20 vD21 vD22) sz q (wMD cC cI aD vD0 vD1 vD2 vD3 vD4 vD5 vD6 vD7 vD8 vD9 vD10 vD11 vD12 vD13 vD14 vD15 vD16 vD17 vD18 vD19 vD20 vD21 vD22) := by
  refine Met.ofW (cc := cX10_groupOf) (maxL := 5) (ret := (some .int)) (by decide) rfl ?_
  intro p e s m args below meth c s₁ B hml hv
  obtain ⟨rfl, hsz, hP, hK, hD0, hN⟩ := hv
  have hx := B.exec
  have hb := B.bytes
  have hr := B.returns
  have hts := atoms_spec (ws := wsX10_groupOf) B.pre
  have hown : s.vm.findClass RX10 = some m.cls := findClass_of_methodNamed B.named
  have hlocks := B.notSynchronized
  subst hsz
  have hD := hD0.self (sz := s.heap.size)
  generalize hAe : va_A (wMD cC cI aD vD0 vD1 vD2 vD3 vD4 vD5 vD6 vD7 vD8 vD9 vD10 vD11 vD12 vD13 vD14 vD15 vD16 vD17 vD18 vD19 vD20 vD21 vD22) s.heap.size = A at hD ⊢
  have hA : ∀ q : Nat, s.heap.size ≤ q → A q := fun q h => by rw [← hAe]; exact Or.inr h
  have hS : va_S A s.heap s.heap [] := va_S.rf
  have hl := lv_entry ([.ref aD.1, .int i1, .int i2]) (n := 5) (Nat.le_of_ble_eq_true rfl)
  rw [lg_entry_eq]
  generalize (lg_sl ([.ref aD.1, .int i1, .int i2]) ++ List.replicate (5 - (lg_sl ([.ref aD.1, .int i1, .int i2])).length) Slot.unset).toArray = ls at hl ⊢
  have hl : lv_has ls 5 [(0, .ref aD.1), (1, .int i1), (2, .int i2)] := hl
  have L5 : ∀ (nL5 : Nat) (y1 : Int32) (y3 : Int32) (y4 : Int32) (H : Heap) (locs : List Loc) (ls : Array Slot), pX10_groupOf_L5 vD0 nL5 y1 y3 y4 = some q → va_P D vwCl (wMD cC cI aD vD0 vD1 vD2 vD3 vD4 vD5 vD6 vD7 vD8 vD9 vD10 vD11 vD12 vD13 vD14 vD15 vD16 vD17 vD18 vD19 vD20 vD21 vD22) H → va_S A s.heap H locs → lv_has ls 5 [(0, .ref aD.1), (1, .int y1), (3, .int y3), (4, .int y4)] → W p l e ({ frames := 1, cells := 0, slots := 0, locals := 22 } : Room) s m ([.ref aD.1, .int i1, .int i2] : List Value).toArray below meth c H locs 0 0 (MQ below (va_Qi (fun (r : Int32) (_ : Unit) => r = q) (fun _ => kPost D (wMD cC cI aD vD0 vD1 vD2 vD3 vD4 vD5 vD6 vD7 vD8 vD9 vD10 vD11 vD12 vD13 vD14 vD15 vD16 vD17 vD18 vD19 vD20 vD21 vD22) A) A) ([.ref aD.1, .int i1, .int i2] : List Value).toArray s 0 0 A) (F0 m 5 ls []) := by
    clear h hP hS hl
    intro nL5
    induction nL5 with
    | zero => intro y1 y3 y4 H locs ls h; have h : (none : Option (Int32)) = some q := h; cases h
    | succ nL5 ihL5 =>
      intro y1 y3 y4 H locs ls h hP hS hl
      have h : pX10_groupOf_bL5 vD0 (pX10_groupOf_L5 vD0 nL5) y1 y3 y4 = some q := h
      unfold pX10_groupOf_bL5 at h
      refine lv_iload hx hb dX10_groupOf_5 (lv_at hl 3 rfl) ?_
      refine lv_aload_n hx hb dX10_groupOf_7 rfl (lv_at hl 0 rfl) ?_
      refine lv_iload_n hx hb dX10_groupOf_8 rfl (lv_at hl 2 rfl) ?_
      refine lv_iload_n hx hb dX10_groupOf_9 rfl (lv_at hl 1 rfl) ?_
      obtain ⟨q2, h1, h⟩ := Option.bind_eq_some_iff.mp h
      refine kcir [0, 1, 2, 3, 4, 5, 6, 7, 8, 9, 10] (va_runV (As := [.int y3, .int y1]) (rest := [.int y4]) ⟨hx, hb, hml, hown, hts⟩ (kX10_has l D cI cC cS aD vD0 vD1 vD2 vD3 vD4 vD5 vD6 vD7 vD8 vD9 vD10 vD11 vD12 vD13 vD14 vD15 vD16 vD17 vD18 vD19 vD20 vD21 vD22 y3 y1 H.size h1) (cwV 2 hts gX10_groupOf_X10_has rfl rfl rfl (by decide +kernel) ⟨Nat.le_of_ble_eq_true rfl, Nat.le_of_ble_eq_true rfl⟩) (kpreV hK hN hP hD [0, 1, 2, 3, 4, 5, 6, 7, 8, 9, 10] rfl (by decide) 10 rfl rfl) rfl rfl hl.1 rfl (lv_room (Nat.le_of_ble_eq_true rfl)) dX10_groupOf_10 ⟨Nat.le_refl _, Nat.le_refl _⟩) hP hD hS hA rfl (fun H locs hP hS => ?_)
      refine lv_icmp_lt (tgt := 33) hx hb dX10_groupOf_13 (by decide) (fun g => ?_) (fun g => ?_)
      · rw [if_pos g] at h
        refine lv_iload_n hx hb dX10_groupOf_33 rfl (lv_at hl 2 rfl) ?_
        obtain rfl := Option.some.inj h
        exact W.iret (v := y3) hx hb hr (fun t ht hW => ⟨⟨_, (), rfl, rfl, by rw [ht]; exact hP, hD⟩, hS.F ht⟩) hS.2.2 dX10_groupOf_34
      · rw [if_neg g] at h
        refine lv_iload hx hb dX10_groupOf_16 (lv_at hl 3 rfl) ?_
        refine lv_aload_n hx hb dX10_groupOf_18 rfl (lv_at hl 0 rfl) ?_
        refine lv_iload_n hx hb dX10_groupOf_19 rfl (lv_at hl 2 rfl) ?_
        refine lv_iload_n hx hb dX10_groupOf_20 rfl (lv_at hl 1 rfl) ?_
        obtain ⟨q4, h3, h⟩ := Option.bind_eq_some_iff.mp h
        refine kcir [0, 1, 2, 3, 4, 5, 6, 7, 8, 9, 10] (va_runV (As := [.int y3, .int y1]) (rest := [.int y4]) ⟨hx, hb, hml, hown, hts⟩ (kX10_has l D cI cC cS aD vD0 vD1 vD2 vD3 vD4 vD5 vD6 vD7 vD8 vD9 vD10 vD11 vD12 vD13 vD14 vD15 vD16 vD17 vD18 vD19 vD20 vD21 vD22 y3 y1 H.size h3) (cwV 2 hts gX10_groupOf_X10_has rfl rfl rfl (by decide +kernel) ⟨Nat.le_of_ble_eq_true rfl, Nat.le_of_ble_eq_true rfl⟩) (kpreV hK hN hP hD [0, 1, 2, 3, 4, 5, 6, 7, 8, 9, 10] rfl (by decide) 10 rfl rfl) rfl rfl hl.1 rfl (lv_room (Nat.le_of_ble_eq_true rfl)) dX10_groupOf_21 ⟨Nat.le_refl _, Nat.le_refl _⟩) hP hD hS hA rfl (fun H locs hP hS => ?_)
        refine lv_isub hx hb dX10_groupOf_24 ?_
        refine lv_istore (lv' := [(4, .int (y4 - q4)), (0, .ref aD.1), (1, .int y1), (3, .int y3)]) hx hb dX10_groupOf_25 hl (by decide) rfl (fun ls hl => ?_)
        refine lv_iinc (v := (y3 + (1 : Int32))) (lv' := [(3, .int (y3 + (1 : Int32))), (4, .int (y4 - q4)), (0, .ref aD.1), (1, .int y1)]) hx hb dX10_groupOf_27 hl (k := 3) rfl rfl (by decide) rfl (fun ls hl => ?_)
        refine lv_goto (tgt := 5) hx hb dX10_groupOf_30 (by decide) ?_
        exact ihL5 y1 (y3 + (1 : Int32)) (y4 - q4) _ _ _ h hP hS (lv_sub hl [2, 3, 0, 1] rfl)
  unfold pX10_groupOf at h
  refine lv_iconst (v := (0 : Int32)) hx hb dX10_groupOf_0 (by decide) ?_
  refine lv_istore_n (lv' := [(3, .int (0 : Int32)), (0, .ref aD.1), (1, .int i1), (2, .int i2)]) hx hb dX10_groupOf_1 rfl hl (by decide) rfl (fun ls hl => ?_)
  refine lv_iload_n hx hb dX10_groupOf_2 rfl (lv_at hl 3 rfl) ?_
  refine lv_istore (lv' := [(4, .int i2), (3, .int (0 : Int32)), (0, .ref aD.1), (1, .int i1), (2, .int i2)]) hx hb dX10_groupOf_3 hl (by decide) rfl (fun ls hl => ?_)
  exact L5 4000 i1 (0 : Int32) i2 _ _ _ h hP hS (lv_sub hl [2, 3, 1, 0] rfl)
