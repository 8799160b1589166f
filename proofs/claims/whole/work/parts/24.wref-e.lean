-- walks: ref (printed by wip/whole/gen)
set_option maxHeartbeats 8000000 in
set_option maxRecDepth 100000 in
theorem kX10_splitVerse (l : Launch) (D : va_G) (cI cC cS : ClassId) (aD : Nat × Nat × Nat × Nat × Nat × Nat × Nat × Nat × Nat × Nat × Nat) (vD0 : (Nat → Int32)) (vD1 : (Nat → Int32)) (vD2 : Int32) (vD3 : Int32) (vD4 : (Nat → Int32)) (vD5 : Int32) (vD6 : Int32) (vD7 : Int32) (vD8 : Int32) (vD9 : Int32) (vD10 : Int32) (vD11 : (Nat → Int32)) (vD12 : (Nat → Int32)) (vD13 : Int32) (vD14 : Int32) (vD15 : (Nat → Int32)) (vD16 : Int32) (vD17 : Int32) (vD18 : Int32) (vD19 : (Nat → Int32)) (vD20 : (Nat → Int32)) (vD21 : (Nat → Int32)) (vD22 : (Nat → Int32)) (i1 : Int32) (i2 : Int32) (i3 : Int32) (sz : Nat) {q : Int32 × (Nat → Int32) × (Nat → Int32) × Int32} (h : pX10_splitVerse vD0 vD1 vD2 i1 i2 i3 = some q) : kMi l yX10_splitVerse wsX10_splitVerse ({ frames := 3, cells := 0, slots := 0, locals := 64 } : Room) D (kTy cI cC cS) [.ref aD.1, .int i1, .int i2, .int i3] (wMD cC cI aD vD0 vD1 vD2 vD3 vD4 vD5 vD6 vD7 vD8 vD9 vD10 vD11 vD12 vD13 vD14 vD15 vD16 vD17 vD18 vD19 vD20 vD21 vD22) sz q.1 (wMD cC cI aD q.2.1 q.2.2.1 q.2.2.2 vD3 vD4 vD5 vD6 vD7 vD8 vD9 vD10 vD11 vD12 vD13 vD14 vD15 vD16 vD17 vD18 vD19 vD20 vD21 vD22) := by
  refine Met.ofW (cc := cX10_splitVerse) (maxL := 7) (ret := (some .int)) (by decide) rfl ?_
  intro p e s m args below meth c s₁ B hml hv
  obtain ⟨rfl, hsz, hP, hK, hD0, hN⟩ := hv
  have hx := B.exec
  have hb := B.bytes
  have hr := B.returns
  have hts := atoms_spec (ws := wsX10_splitVerse) B.pre
  have hown : s.vm.findClass RX10 = some m.cls := findClass_of_methodNamed B.named
  have hlocks := B.notSynchronized
  subst hsz
  have hD := hD0.self (sz := s.heap.size)
  generalize hAe : va_A (wMD cC cI aD vD0 vD1 vD2 vD3 vD4 vD5 vD6 vD7 vD8 vD9 vD10 vD11 vD12 vD13 vD14 vD15 vD16 vD17 vD18 vD19 vD20 vD21 vD22) s.heap.size = A at hD ⊢
  have hA : ∀ q : Nat, s.heap.size ≤ q → A q := fun q h => by rw [← hAe]; exact Or.inr h
  have hS : va_S A s.heap s.heap [] := va_S.rf
  have huX10 : ∀ w ∈ u_ws RX10 TX10 23, w ∈ wsX10_splitVerse := by decide +kernel
  have hl := lv_entry ([.ref aD.1, .int i1, .int i2, .int i3]) (n := 7) (Nat.le_of_ble_eq_true rfl)
  rw [lg_entry_eq]
  generalize (lg_sl ([.ref aD.1, .int i1, .int i2, .int i3]) ++ List.replicate (7 - (lg_sl ([.ref aD.1, .int i1, .int i2, .int i3])).length) Slot.unset).toArray = ls at hl ⊢
  have hl : lv_has ls 7 [(0, .ref aD.1), (1, .int i1), (2, .int i2), (3, .int i3)] := hl
  have j167 : ∀ (c0_0 : (Nat → Int32)) (c0_1 : (Nat → Int32)) (c0_2 : Int32) (y1 : Int32) (y5 : Int32) (t1 : Int32) (H : Heap) (locs : List Loc) (ls : Array Slot), pX10_splitVerse_j167  c0_0 c0_1 c0_2 y1 y5 t1 = some q → va_P D vwCl (wMD cC cI aD c0_0 c0_1 c0_2 vD3 vD4 vD5 vD6 vD7 vD8 vD9 vD10 vD11 vD12 vD13 vD14 vD15 vD16 vD17 vD18 vD19 vD20 vD21 vD22) H → va_D A (wMD cC cI aD c0_0 c0_1 c0_2 vD3 vD4 vD5 vD6 vD7 vD8 vD9 vD10 vD11 vD12 vD13 vD14 vD15 vD16 vD17 vD18 vD19 vD20 vD21 vD22) → va_S A s.heap H locs → lv_has ls 7 [(0, .ref aD.1), (1, .int y1), (5, .int y5)] → W p l e ({ frames := 3, cells := 0, slots := 0, locals := 64 } : Room) s m ([.ref aD.1, .int i1, .int i2, .int i3] : List Value).toArray below meth c H locs 0 0 (MQ below (va_Qi (fun (r : Int32) (_ : Unit) => r = q.1) (fun _ => kPost D (wMD cC cI aD q.2.1 q.2.2.1 q.2.2.2 vD3 vD4 vD5 vD6 vD7 vD8 vD9 vD10 vD11 vD12 vD13 vD14 vD15 vD16 vD17 vD18 vD19 vD20 vD21 vD22) A) A) ([.ref aD.1, .int i1, .int i2, .int i3] : List Value).toArray s 0 0 A) (F0 m 167 ls [.int t1, .ref aD.2.1]) := by
    clear h hP hD hS hl
    intro c0_0 c0_1 c0_2 y1 y5 t1 H locs ls h hP hD hS hl
    unfold pX10_splitVerse_j167 at h
    refine lv_iload hx hb dX10_splitVerse_167 (lv_at hl 2 rfl) ?_
    refine lv_iadd hx hb dX10_splitVerse_169 ?_
    refine lv_dup2_11 hx hb dX10_splitVerse_170 rfl rfl ?_
    obtain ⟨g, h⟩ := kif h
    refine va_iald hx hb hK hP 1 0 rfl rfl (kin g) dX10_splitVerse_171 ?_
    refine lv_iconst (v := (1 : Int32)) hx hb dX10_splitVerse_172 (by decide) ?_
    refine lv_iadd hx hb dX10_splitVerse_173 ?_
    obtain ⟨g, h⟩ := kif h
    refine va_iast hx hb hK hP hD hS 1 0 rfl rfl (kin g) dX10_splitVerse_174 (fun H locs hP hD hS => ?_)
    have hP : va_P D vwCl (wMD cC cI aD (upd c0_0 (t1 + y5).toNatClampNeg ((c0_0 (t1 + y5).toNatClampNeg) + (1 : Int32))) c0_1 c0_2 vD3 vD4 vD5 vD6 vD7 vD8 vD9 vD10 vD11 vD12 vD13 vD14 vD15 vD16 vD17 vD18 vD19 vD20 vD21 vD22) H := hP
    have hD : va_D A (wMD cC cI aD (upd c0_0 (t1 + y5).toNatClampNeg ((c0_0 (t1 + y5).toNatClampNeg) + (1 : Int32))) c0_1 c0_2 vD3 vD4 vD5 vD6 vD7 vD8 vD9 vD10 vD11 vD12 vD13 vD14 vD15 vD16 vD17 vD18 vD19 vD20 vD21 vD22) := hD
    refine lv_aload_n hx hb dX10_splitVerse_175 rfl (lv_at hl 0 rfl) ?_
    refine va_get (D := D) (ci := 10) (v := .ref aD.2.1) (C := RX10) (T := TX10) (N := 23) hx hb hts huX10 hown hK hP 0 rfl rfl 0 (by decide) (hts (.fieldLink RX10 7 "VerseColumnsModel" "row" "[I") (by decide +kernel)) (fun _ h9 => h9) rfl dX10_splitVerse_176 ?_
    refine lv_sipush (v := (360 : Int32)) hx hb dX10_splitVerse_179 (by decide) ?_
    refine lv_iload_n hx hb dX10_splitVerse_182 rfl (lv_at hl 1 rfl) ?_
    refine lv_iadd hx hb dX10_splitVerse_183 ?_
    refine lv_dup2_11 hx hb dX10_splitVerse_184 rfl rfl ?_
    obtain ⟨g, h⟩ := kif h
    refine va_iald hx hb hK hP 1 0 rfl rfl (kin g) dX10_splitVerse_185 ?_
    refine lv_iconst (v := (1 : Int32)) hx hb dX10_splitVerse_186 (by decide) ?_
    refine lv_iadd hx hb dX10_splitVerse_187 ?_
    obtain ⟨g, h⟩ := kif h
    refine va_iast hx hb hK hP hD hS 1 0 rfl rfl (kin g) dX10_splitVerse_188 (fun H locs hP hD hS => ?_)
    have hP : va_P D vwCl (wMD cC cI aD (upd (upd c0_0 (t1 + y5).toNatClampNeg ((c0_0 (t1 + y5).toNatClampNeg) + (1 : Int32))) ((360 : Int32) + y1).toNatClampNeg (((upd c0_0 (t1 + y5).toNatClampNeg ((c0_0 (t1 + y5).toNatClampNeg) + (1 : Int32))) ((360 : Int32) + y1).toNatClampNeg) + (1 : Int32))) c0_1 c0_2 vD3 vD4 vD5 vD6 vD7 vD8 vD9 vD10 vD11 vD12 vD13 vD14 vD15 vD16 vD17 vD18 vD19 vD20 vD21 vD22) H := hP
    have hD : va_D A (wMD cC cI aD (upd (upd c0_0 (t1 + y5).toNatClampNeg ((c0_0 (t1 + y5).toNatClampNeg) + (1 : Int32))) ((360 : Int32) + y1).toNatClampNeg (((upd c0_0 (t1 + y5).toNatClampNeg ((c0_0 (t1 + y5).toNatClampNeg) + (1 : Int32))) ((360 : Int32) + y1).toNatClampNeg) + (1 : Int32))) c0_1 c0_2 vD3 vD4 vD5 vD6 vD7 vD8 vD9 vD10 vD11 vD12 vD13 vD14 vD15 vD16 vD17 vD18 vD19 vD20 vD21 vD22) := hD
    refine lv_aload_n hx hb dX10_splitVerse_189 rfl (lv_at hl 0 rfl) ?_
    refine lv_iload_n hx hb dX10_splitVerse_190 rfl (lv_at hl 1 rfl) ?_
    obtain ⟨q14, h13, h⟩ := Option.bind_eq_some_iff.mp h
    refine kcir [0, 1, 2, 3, 4, 5, 6, 7, 8, 9, 10] (va_runV (As := [.int y1]) (rest := []) ⟨hx, hb, hml, hown, hts⟩ (kX10_size l D cI cC cS aD (upd (upd c0_0 (t1 + y5).toNatClampNeg ((c0_0 (t1 + y5).toNatClampNeg) + (1 : Int32))) ((360 : Int32) + y1).toNatClampNeg (((upd c0_0 (t1 + y5).toNatClampNeg ((c0_0 (t1 + y5).toNatClampNeg) + (1 : Int32))) ((360 : Int32) + y1).toNatClampNeg) + (1 : Int32))) c0_1 c0_2 vD3 vD4 vD5 vD6 vD7 vD8 vD9 vD10 vD11 vD12 vD13 vD14 vD15 vD16 vD17 vD18 vD19 vD20 vD21 vD22 y1 H.size h13) (cwV 1 hts gX10_splitVerse_X10_size rfl rfl rfl (by decide +kernel) ⟨Nat.le_of_ble_eq_true rfl, Nat.le_of_ble_eq_true rfl⟩) (kpreV hK hN hP hD [0, 1, 2, 3, 4, 5, 6, 7, 8, 9, 10] rfl (by decide) 10 rfl rfl) rfl rfl hl.1 rfl (lv_room (Nat.le_of_ble_eq_true rfl)) dX10_splitVerse_191 ⟨Nat.le_refl _, Nat.le_refl _⟩) hP hD hS hA rfl (fun H locs hP hS => ?_)
    obtain rfl := Option.some.inj h
    exact W.iret (v := q14) hx hb hr (fun t ht hW => ⟨⟨_, (), rfl, rfl, by rw [ht]; exact hP, hD⟩, hS.F ht⟩) hS.2.2 dX10_splitVerse_194
  have L79 : ∀ (nL79 : Nat) (c0_0 : (Nat → Int32)) (c0_1 : (Nat → Int32)) (c0_2 : Int32) (y1 : Int32) (y2 : Int32) (y3 : Int32) (y4 : Int32) (y5 : Int32) (y6 : Int32) (H : Heap) (locs : List Loc) (ls : Array Slot), pX10_splitVerse_L79  nL79 c0_0 c0_1 c0_2 y1 y2 y3 y4 y5 y6 = some q → va_P D vwCl (wMD cC cI aD c0_0 c0_1 c0_2 vD3 vD4 vD5 vD6 vD7 vD8 vD9 vD10 vD11 vD12 vD13 vD14 vD15 vD16 vD17 vD18 vD19 vD20 vD21 vD22) H → va_D A (wMD cC cI aD c0_0 c0_1 c0_2 vD3 vD4 vD5 vD6 vD7 vD8 vD9 vD10 vD11 vD12 vD13 vD14 vD15 vD16 vD17 vD18 vD19 vD20 vD21 vD22) → va_S A s.heap H locs → lv_has ls 7 [(0, .ref aD.1), (1, .int y1), (2, .int y2), (3, .int y3), (4, .int y4), (5, .int y5), (6, .int y6)] → W p l e ({ frames := 3, cells := 0, slots := 0, locals := 64 } : Room) s m ([.ref aD.1, .int i1, .int i2, .int i3] : List Value).toArray below meth c H locs 0 0 (MQ below (va_Qi (fun (r : Int32) (_ : Unit) => r = q.1) (fun _ => kPost D (wMD cC cI aD q.2.1 q.2.2.1 q.2.2.2 vD3 vD4 vD5 vD6 vD7 vD8 vD9 vD10 vD11 vD12 vD13 vD14 vD15 vD16 vD17 vD18 vD19 vD20 vD21 vD22) A) A) ([.ref aD.1, .int i1, .int i2, .int i3] : List Value).toArray s 0 0 A) (F0 m 79 ls []) := by
    clear h hP hD hS hl
    intro nL79
    induction nL79 with
    | zero => intro c0_0 c0_1 c0_2 y1 y2 y3 y4 y5 y6 H locs ls h; have h : (none : Option (Int32 × (Nat → Int32) × (Nat → Int32) × Int32)) = some q := h; cases h
    | succ nL79 ihL79 =>
      intro c0_0 c0_1 c0_2 y1 y2 y3 y4 y5 y6 H locs ls h hP hD hS hl
      have h : pX10_splitVerse_bL79 (pX10_splitVerse_L79  nL79) c0_0 c0_1 c0_2 y1 y2 y3 y4 y5 y6 = some q := h
      unfold pX10_splitVerse_bL79 at h
      refine lv_iload hx hb dX10_splitVerse_79 (lv_at hl 6 rfl) ?_
      refine lv_iload_n hx hb dX10_splitVerse_81 rfl (lv_at hl 2 rfl) ?_
      refine lv_icmp_le (tgt := 111) hx hb dX10_splitVerse_82 (by decide) (fun g => ?_) (fun g => ?_)
      · rw [if_pos g] at h
        refine lv_aload_n hx hb dX10_splitVerse_111 rfl (lv_at hl 0 rfl) ?_
        refine va_get (D := D) (ci := 10) (v := .ref aD.2.1) (C := RX10) (T := TX10) (N := 23) hx hb hts huX10 hown hK hP 0 rfl rfl 0 (by decide) (hts (.fieldLink RX10 7 "VerseColumnsModel" "row" "[I") (by decide +kernel)) (fun _ h9 => h9) rfl dX10_splitVerse_112 ?_
        refine lv_iload hx hb dX10_splitVerse_115 (lv_at hl 4 rfl) ?_
        refine lv_iconst (v := (1 : Int32)) hx hb dX10_splitVerse_117 (by decide) ?_
        refine lv_iadd hx hb dX10_splitVerse_118 ?_
        refine lv_aload_n hx hb dX10_splitVerse_119 rfl (lv_at hl 0 rfl) ?_
        refine va_get (D := D) (ci := 10) (v := .ref aD.2.1) (C := RX10) (T := TX10) (N := 23) hx hb hts huX10 hown hK hP 0 rfl rfl 0 (by decide) (hts (.fieldLink RX10 7 "VerseColumnsModel" "row" "[I") (by decide +kernel)) (fun _ h9 => h9) rfl dX10_splitVerse_120 ?_
        refine lv_iload hx hb dX10_splitVerse_123 (lv_at hl 4 rfl) ?_
        obtain ⟨g, h⟩ := kif h
        refine va_iald hx hb hK hP 1 0 rfl rfl (kin g) dX10_splitVerse_125 ?_
        refine lv_iload_n hx hb dX10_splitVerse_126 rfl (lv_at hl 3 rfl) ?_
        refine lv_isub hx hb dX10_splitVerse_127 ?_
        obtain ⟨g, h⟩ := kif h
        refine va_iast hx hb hK hP hD hS 1 0 rfl rfl (kin g) dX10_splitVerse_128 (fun H locs hP hD hS => ?_)
        have hP : va_P D vwCl (wMD cC cI aD (upd c0_0 (y4 + (1 : Int32)).toNatClampNeg ((c0_0 y4.toNatClampNeg) - y3)) c0_1 c0_2 vD3 vD4 vD5 vD6 vD7 vD8 vD9 vD10 vD11 vD12 vD13 vD14 vD15 vD16 vD17 vD18 vD19 vD20 vD21 vD22) H := hP
        have hD : va_D A (wMD cC cI aD (upd c0_0 (y4 + (1 : Int32)).toNatClampNeg ((c0_0 y4.toNatClampNeg) - y3)) c0_1 c0_2 vD3 vD4 vD5 vD6 vD7 vD8 vD9 vD10 vD11 vD12 vD13 vD14 vD15 vD16 vD17 vD18 vD19 vD20 vD21 vD22) := hD
        refine lv_aload_n hx hb dX10_splitVerse_129 rfl (lv_at hl 0 rfl) ?_
        refine va_get (D := D) (ci := 10) (v := .ref aD.2.1) (C := RX10) (T := TX10) (N := 23) hx hb hts huX10 hown hK hP 0 rfl rfl 0 (by decide) (hts (.fieldLink RX10 7 "VerseColumnsModel" "row" "[I") (by decide +kernel)) (fun _ h9 => h9) rfl dX10_splitVerse_130 ?_
        refine lv_bipush (v := (120 : Int32)) hx hb dX10_splitVerse_133 (by decide) ?_
        refine lv_iload hx hb dX10_splitVerse_135 (lv_at hl 4 rfl) ?_
        refine lv_iadd hx hb dX10_splitVerse_137 ?_
        refine lv_iconst (v := (1 : Int32)) hx hb dX10_splitVerse_138 (by decide) ?_
        refine lv_iadd hx hb dX10_splitVerse_139 ?_
        refine lv_iconst (v := (0 : Int32)) hx hb dX10_splitVerse_140 (by decide) ?_
        obtain ⟨g, h⟩ := kif h
        refine va_iast hx hb hK hP hD hS 1 0 rfl rfl (kin g) dX10_splitVerse_141 (fun H locs hP hD hS => ?_)
        have hP : va_P D vwCl (wMD cC cI aD (upd (upd c0_0 (y4 + (1 : Int32)).toNatClampNeg ((c0_0 y4.toNatClampNeg) - y3)) (((120 : Int32) + y4) + (1 : Int32)).toNatClampNeg (0 : Int32)) c0_1 c0_2 vD3 vD4 vD5 vD6 vD7 vD8 vD9 vD10 vD11 vD12 vD13 vD14 vD15 vD16 vD17 vD18 vD19 vD20 vD21 vD22) H := hP
        have hD : va_D A (wMD cC cI aD (upd (upd c0_0 (y4 + (1 : Int32)).toNatClampNeg ((c0_0 y4.toNatClampNeg) - y3)) (((120 : Int32) + y4) + (1 : Int32)).toNatClampNeg (0 : Int32)) c0_1 c0_2 vD3 vD4 vD5 vD6 vD7 vD8 vD9 vD10 vD11 vD12 vD13 vD14 vD15 vD16 vD17 vD18 vD19 vD20 vD21 vD22) := hD
        refine lv_aload_n hx hb dX10_splitVerse_142 rfl (lv_at hl 0 rfl) ?_
        refine va_get (D := D) (ci := 10) (v := .ref aD.2.1) (C := RX10) (T := TX10) (N := 23) hx hb hts huX10 hown hK hP 0 rfl rfl 0 (by decide) (hts (.fieldLink RX10 7 "VerseColumnsModel" "row" "[I") (by decide +kernel)) (fun _ h9 => h9) rfl dX10_splitVerse_143 ?_
        refine lv_iload hx hb dX10_splitVerse_146 (lv_at hl 4 rfl) ?_
        refine lv_iload_n hx hb dX10_splitVerse_148 rfl (lv_at hl 3 rfl) ?_
        obtain ⟨g, h⟩ := kif h
        refine va_iast hx hb hK hP hD hS 1 0 rfl rfl (kin g) dX10_splitVerse_149 (fun H locs hP hD hS => ?_)
        have hP : va_P D vwCl (wMD cC cI aD (upd (upd (upd c0_0 (y4 + (1 : Int32)).toNatClampNeg ((c0_0 y4.toNatClampNeg) - y3)) (((120 : Int32) + y4) + (1 : Int32)).toNatClampNeg (0 : Int32)) y4.toNatClampNeg y3) c0_1 c0_2 vD3 vD4 vD5 vD6 vD7 vD8 vD9 vD10 vD11 vD12 vD13 vD14 vD15 vD16 vD17 vD18 vD19 vD20 vD21 vD22) H := hP
        have hD : va_D A (wMD cC cI aD (upd (upd (upd c0_0 (y4 + (1 : Int32)).toNatClampNeg ((c0_0 y4.toNatClampNeg) - y3)) (((120 : Int32) + y4) + (1 : Int32)).toNatClampNeg (0 : Int32)) y4.toNatClampNeg y3) c0_1 c0_2 vD3 vD4 vD5 vD6 vD7 vD8 vD9 vD10 vD11 vD12 vD13 vD14 vD15 vD16 vD17 vD18 vD19 vD20 vD21 vD22) := hD
        refine lv_aload_n hx hb dX10_splitVerse_150 rfl (lv_at hl 0 rfl) ?_
        refine va_get (D := D) (ci := 10) (v := .ref aD.2.1) (C := RX10) (T := TX10) (N := 23) hx hb hts huX10 hown hK hP 0 rfl rfl 0 (by decide) (hts (.fieldLink RX10 7 "VerseColumnsModel" "row" "[I") (by decide +kernel)) (fun _ h9 => h9) rfl dX10_splitVerse_151 ?_
        refine lv_iload_n hx hb dX10_splitVerse_154 rfl (lv_at hl 1 rfl) ?_
        refine lv_if_ne (tgt := 164) hx hb dX10_splitVerse_155 (by decide) (fun g => ?_) (fun g => ?_)
        · rw [if_neg g] at h
          refine lv_sipush (v := (485 : Int32)) hx hb dX10_splitVerse_164 (by decide) ?_
          exact j167 (upd (upd (upd c0_0 (y4 + (1 : Int32)).toNatClampNeg ((c0_0 y4.toNatClampNeg) - y3)) (((120 : Int32) + y4) + (1 : Int32)).toNatClampNeg (0 : Int32)) y4.toNatClampNeg y3) c0_1 c0_2 y1 y5 (485 : Int32) _ _ _ h hP hD hS (lv_sub hl [0, 1, 5] rfl)
        · rw [if_pos g] at h
          refine lv_sipush (v := (365 : Int32)) hx hb dX10_splitVerse_158 (by decide) ?_
          refine lv_goto (tgt := 167) hx hb dX10_splitVerse_161 (by decide) ?_
          exact j167 (upd (upd (upd c0_0 (y4 + (1 : Int32)).toNatClampNeg ((c0_0 y4.toNatClampNeg) - y3)) (((120 : Int32) + y4) + (1 : Int32)).toNatClampNeg (0 : Int32)) y4.toNatClampNeg y3) c0_1 c0_2 y1 y5 (365 : Int32) _ _ _ h hP hD hS (lv_sub hl [0, 1, 5] rfl)
      · rw [if_neg g] at h
        refine lv_aload_n hx hb dX10_splitVerse_85 rfl (lv_at hl 0 rfl) ?_
        refine lv_bipush (v := (60 : Int32)) hx hb dX10_splitVerse_86 (by decide) ?_
        refine lv_iload_n hx hb dX10_splitVerse_88 rfl (lv_at hl 1 rfl) ?_
        refine lv_imul hx hb dX10_splitVerse_89 ?_
        refine lv_iload hx hb dX10_splitVerse_90 (lv_at hl 6 rfl) ?_
        refine lv_iadd hx hb dX10_splitVerse_92 ?_
        refine lv_iconst (v := (1 : Int32)) hx hb dX10_splitVerse_93 (by decide) ?_
        refine lv_isub hx hb dX10_splitVerse_94 ?_
        refine lv_bipush (v := (60 : Int32)) hx hb dX10_splitVerse_95 (by decide) ?_
        refine lv_iload_n hx hb dX10_splitVerse_97 rfl (lv_at hl 1 rfl) ?_
        refine lv_imul hx hb dX10_splitVerse_98 ?_
        refine lv_iload hx hb dX10_splitVerse_99 (lv_at hl 6 rfl) ?_
        refine lv_iadd hx hb dX10_splitVerse_101 ?_
        obtain ⟨q16, h15, h⟩ := Option.bind_eq_some_iff.mp h
        refine kcvw (ws' := (wMD cC cI aD q16 c0_1 c0_2 vD3 vD4 vD5 vD6 vD7 vD8 vD9 vD10 vD11 vD12 vD13 vD14 vD15 vD16 vD17 vD18 vD19 vD20 vD21 vD22)) [0, 1, 2, 3, 4, 5, 6, 7, 8, 9, 10] (va_runV (As := [.int ((((60 : Int32) * y1) + y6) - (1 : Int32)), .int (((60 : Int32) * y1) + y6)]) (rest := []) ⟨hx, hb, hml, hown, hts⟩ (kX10_copyVerse l D cI cC cS aD c0_0 c0_1 c0_2 vD3 vD4 vD5 vD6 vD7 vD8 vD9 vD10 vD11 vD12 vD13 vD14 vD15 vD16 vD17 vD18 vD19 vD20 vD21 vD22 ((((60 : Int32) * y1) + y6) - (1 : Int32)) (((60 : Int32) * y1) + y6) H.size h15) (cwV 2 hts gX10_splitVerse_X10_copyVerse rfl rfl rfl (by decide +kernel) ⟨Nat.le_of_ble_eq_true rfl, Nat.le_of_ble_eq_true rfl⟩) (kpreV hK hN hP hD [0, 1, 2, 3, 4, 5, 6, 7, 8, 9, 10] rfl (by decide) 10 rfl rfl) rfl rfl hl.1 rfl (lv_room (Nat.le_of_ble_eq_true rfl)) dX10_splitVerse_102 ⟨Nat.le_refl _, Nat.le_refl _⟩) hP hD hS hA rfl (by decide) rfl [1, 2, 3, 4, 5, 6, 7, 8, 9, 10, 11] (by decide +kernel) rfl (fun H locs hP hD hS => ?_)
        refine lv_iinc (v := (y6 + (-1 : Int32))) (lv' := [(6, .int (y6 + (-1 : Int32))), (0, .ref aD.1), (1, .int y1), (2, .int y2), (3, .int y3), (4, .int y4), (5, .int y5)]) hx hb dX10_splitVerse_105 hl (k := 6) rfl rfl (by decide) rfl (fun ls hl => ?_)
        refine lv_goto (tgt := 79) hx hb dX10_splitVerse_108 (by decide) ?_
        exact ihL79 q16 c0_1 c0_2 y1 y2 y3 y4 y5 (y6 + (-1 : Int32)) _ _ _ h hP hD hS (lv_sub hl [1, 2, 3, 4, 5, 6, 0] rfl)
  unfold pX10_splitVerse at h
  refine lv_aload_n hx hb dX10_splitVerse_0 rfl (lv_at hl 0 rfl) ?_
  refine lv_iload_n hx hb dX10_splitVerse_1 rfl (lv_at hl 1 rfl) ?_
  refine lv_iload_n hx hb dX10_splitVerse_2 rfl (lv_at hl 2 rfl) ?_
  obtain ⟨q2, h1, h⟩ := Option.bind_eq_some_iff.mp h
  refine kcir [0, 1, 2, 3, 4, 5, 6, 7, 8, 9, 10] (va_runV (As := [.int i1, .int i2]) (rest := []) ⟨hx, hb, hml, hown, hts⟩ (kX10_noVerse l D cI cC cS aD vD0 vD1 vD2 vD3 vD4 vD5 vD6 vD7 vD8 vD9 vD10 vD11 vD12 vD13 vD14 vD15 vD16 vD17 vD18 vD19 vD20 vD21 vD22 i1 i2 s.heap.size h1) (cwV 2 hts gX10_splitVerse_X10_noVerse rfl rfl rfl (by decide +kernel) ⟨Nat.le_of_ble_eq_true rfl, Nat.le_of_ble_eq_true rfl⟩) (kpreV hK hN hP hD [0, 1, 2, 3, 4, 5, 6, 7, 8, 9, 10] rfl (by decide) 10 rfl rfl) rfl rfl hl.1 rfl (lv_room (Nat.le_of_ble_eq_true rfl)) dX10_splitVerse_3 ⟨Nat.le_refl _, Nat.le_refl _⟩) hP hD hS hA rfl (fun H locs hP hS => ?_)
  refine lv_if_eq (tgt := 11) hx hb dX10_splitVerse_6 (by decide) (fun g => ?_) (fun g => ?_)
  · rw [if_pos g] at h
    refine lv_iload_n hx hb dX10_splitVerse_11 rfl (lv_at hl 3 rfl) ?_
    refine lv_iconst (v := (1 : Int32)) hx hb dX10_splitVerse_12 (by decide) ?_
    refine lv_sipush (v := (1999 : Int32)) hx hb dX10_splitVerse_13 (by decide) ?_
    obtain ⟨q4, h3, h⟩ := Option.bind_eq_some_iff.mp h
    refine kcir [] (va_runS (As := [.int i3, .int (1 : Int32), .int (1999 : Int32)]) (rest := []) ⟨hx, hb, hml, hown, hts⟩ (kX10_in l D cI cC cS i3 (1 : Int32) (1999 : Int32) H.size h3) (cwS 3 hts gX10_splitVerse_X10_in rfl rfl rfl (by decide +kernel) ⟨Nat.le_of_ble_eq_true rfl, Nat.le_of_ble_eq_true rfl⟩) (kpre hK hN hP hD [] rfl (by decide)) rfl rfl hl.1 rfl (lv_room (Nat.le_of_ble_eq_true rfl)) dX10_splitVerse_16 ⟨Nat.le_refl _, Nat.le_refl _⟩) hP hD hS hA rfl (fun H locs hP hS => ?_)
    refine lv_if_ne (tgt := 25) hx hb dX10_splitVerse_19 (by decide) (fun g => ?_) (fun g => ?_)
    · rw [if_neg g] at h
      refine lv_bipush (v := (60 : Int32)) hx hb dX10_splitVerse_25 (by decide) ?_
      refine lv_iload_n hx hb dX10_splitVerse_27 rfl (lv_at hl 1 rfl) ?_
      refine lv_imul hx hb dX10_splitVerse_28 ?_
      refine lv_iload_n hx hb dX10_splitVerse_29 rfl (lv_at hl 2 rfl) ?_
      refine lv_iadd hx hb dX10_splitVerse_30 ?_
      refine lv_istore (lv' := [(4, .int (((60 : Int32) * i1) + i2)), (0, .ref aD.1), (1, .int i1), (2, .int i2), (3, .int i3)]) hx hb dX10_splitVerse_31 hl (by decide) rfl (fun ls hl => ?_)
      refine lv_iload_n hx hb dX10_splitVerse_33 rfl (lv_at hl 4 rfl) ?_
      refine lv_aload_n hx hb dX10_splitVerse_34 rfl (lv_at hl 1 rfl) ?_
      refine va_get (D := D) (ci := 10) (v := .ref aD.2.1) (C := RX10) (T := TX10) (N := 23) hx hb hts huX10 hown hK hP 0 rfl rfl 0 (by decide) (hts (.fieldLink RX10 7 "VerseColumnsModel" "row" "[I") (by decide +kernel)) (fun _ h9 => h9) rfl dX10_splitVerse_35 ?_
      refine lv_iload hx hb dX10_splitVerse_38 (lv_at hl 0 rfl) ?_
      obtain ⟨g, h⟩ := kif h
      refine va_iald hx hb hK hP 1 0 rfl rfl (kin g) dX10_splitVerse_40 ?_
      refine lv_icmp_lt (tgt := 47) hx hb dX10_splitVerse_41 (by decide) (fun g => ?_) (fun g => ?_)
      · rw [if_pos g] at h
        refine lv_aload_n hx hb dX10_splitVerse_47 rfl (lv_at hl 1 rfl) ?_
        refine lv_iload_n hx hb dX10_splitVerse_48 rfl (lv_at hl 2 rfl) ?_
        obtain ⟨q6, h5, h⟩ := Option.bind_eq_some_iff.mp h
        refine kcir [0, 1, 2, 3, 4, 5, 6, 7, 8, 9, 10] (va_runV (As := [.int i1]) (rest := []) ⟨hx, hb, hml, hown, hts⟩ (kX10_size l D cI cC cS aD vD0 vD1 vD2 vD3 vD4 vD5 vD6 vD7 vD8 vD9 vD10 vD11 vD12 vD13 vD14 vD15 vD16 vD17 vD18 vD19 vD20 vD21 vD22 i1 H.size h5) (cwV 1 hts gX10_splitVerse_X10_size rfl rfl rfl (by decide +kernel) ⟨Nat.le_of_ble_eq_true rfl, Nat.le_of_ble_eq_true rfl⟩) (kpreV hK hN hP hD [0, 1, 2, 3, 4, 5, 6, 7, 8, 9, 10] rfl (by decide) 10 rfl rfl) rfl rfl hl.1 rfl (lv_room (Nat.le_of_ble_eq_true rfl)) dX10_splitVerse_49 ⟨Nat.le_refl _, Nat.le_refl _⟩) hP hD hS hA rfl (fun H locs hP hS => ?_)
        refine lv_bipush (v := (60 : Int32)) hx hb dX10_splitVerse_52 (by decide) ?_
        refine lv_icmp_ne (tgt := 60) hx hb dX10_splitVerse_54 (by decide) (fun g => ?_) (fun g => ?_)
        · rw [if_neg g] at h
          refine lv_aload_n hx hb dX10_splitVerse_60 rfl (lv_at hl 1 rfl) ?_
          obtain ⟨q8, h7, h⟩ := Option.bind_eq_some_iff.mp h
          refine kcvw (ws' := (wMD cC cI aD vD0 q8.1 q8.2 vD3 vD4 vD5 vD6 vD7 vD8 vD9 vD10 vD11 vD12 vD13 vD14 vD15 vD16 vD17 vD18 vD19 vD20 vD21 vD22)) [0, 1, 2, 3, 4, 5, 6, 7, 8, 9, 10] (va_runV (As := []) (rest := []) ⟨hx, hb, hml, hown, hts⟩ (kX10_record l D cI cC cS aD vD0 vD1 vD2 vD3 vD4 vD5 vD6 vD7 vD8 vD9 vD10 vD11 vD12 vD13 vD14 vD15 vD16 vD17 vD18 vD19 vD20 vD21 vD22 H.size h7) (cwV 0 hts gX10_splitVerse_X10_record rfl rfl rfl (by decide +kernel) ⟨Nat.le_of_ble_eq_true rfl, Nat.le_of_ble_eq_true rfl⟩) (kpreV hK hN hP hD [0, 1, 2, 3, 4, 5, 6, 7, 8, 9, 10] rfl (by decide) 10 rfl rfl) rfl rfl hl.1 rfl (lv_room (Nat.le_of_ble_eq_true rfl)) dX10_splitVerse_61 ⟨Nat.le_refl _, Nat.le_refl _⟩) hP hD hS hA rfl (by decide) rfl [1, 2, 3, 4, 5, 6, 7, 8, 9, 10, 11] (by decide +kernel) rfl (fun H locs hP hD hS => ?_)
          refine lv_aload_n hx hb dX10_splitVerse_64 rfl (lv_at hl 1 rfl) ?_
          refine lv_iload_n hx hb dX10_splitVerse_65 rfl (lv_at hl 2 rfl) ?_
          refine lv_iload_n hx hb dX10_splitVerse_66 rfl (lv_at hl 3 rfl) ?_
          obtain ⟨q10, h9, h⟩ := Option.bind_eq_some_iff.mp h
          refine kcir [0, 1, 2, 3, 4, 5, 6, 7, 8, 9, 10] (va_runV (As := [.int i1, .int i2]) (rest := []) ⟨hx, hb, hml, hown, hts⟩ (kX10_groupOf l D cI cC cS aD vD0 q8.1 q8.2 vD3 vD4 vD5 vD6 vD7 vD8 vD9 vD10 vD11 vD12 vD13 vD14 vD15 vD16 vD17 vD18 vD19 vD20 vD21 vD22 i1 i2 H.size h9) (cwV 2 hts gX10_splitVerse_X10_groupOf rfl rfl rfl (by decide +kernel) ⟨Nat.le_of_ble_eq_true rfl, Nat.le_of_ble_eq_true rfl⟩) (kpreV hK hN hP hD [0, 1, 2, 3, 4, 5, 6, 7, 8, 9, 10] rfl (by decide) 10 rfl rfl) rfl rfl hl.1 rfl (lv_room (Nat.le_of_ble_eq_true rfl)) dX10_splitVerse_67 ⟨Nat.le_refl _, Nat.le_refl _⟩) hP hD hS hA rfl (fun H locs hP hS => ?_)
          refine lv_istore (lv' := [(5, .int q10), (4, .int (((60 : Int32) * i1) + i2)), (0, .ref aD.1), (1, .int i1), (2, .int i2), (3, .int i3)]) hx hb dX10_splitVerse_70 hl (by decide) rfl (fun ls hl => ?_)
          refine lv_aload_n hx hb dX10_splitVerse_72 rfl (lv_at hl 2 rfl) ?_
          refine lv_iload_n hx hb dX10_splitVerse_73 rfl (lv_at hl 3 rfl) ?_
          obtain ⟨q12, h11, h⟩ := Option.bind_eq_some_iff.mp h
          refine kcir [0, 1, 2, 3, 4, 5, 6, 7, 8, 9, 10] (va_runV (As := [.int i1]) (rest := []) ⟨hx, hb, hml, hown, hts⟩ (kX10_size l D cI cC cS aD vD0 q8.1 q8.2 vD3 vD4 vD5 vD6 vD7 vD8 vD9 vD10 vD11 vD12 vD13 vD14 vD15 vD16 vD17 vD18 vD19 vD20 vD21 vD22 i1 H.size h11) (cwV 1 hts gX10_splitVerse_X10_size rfl rfl rfl (by decide +kernel) ⟨Nat.le_of_ble_eq_true rfl, Nat.le_of_ble_eq_true rfl⟩) (kpreV hK hN hP hD [0, 1, 2, 3, 4, 5, 6, 7, 8, 9, 10] rfl (by decide) 10 rfl rfl) rfl rfl hl.1 rfl (lv_room (Nat.le_of_ble_eq_true rfl)) dX10_splitVerse_74 ⟨Nat.le_refl _, Nat.le_refl _⟩) hP hD hS hA rfl (fun H locs hP hS => ?_)
          refine lv_istore (lv' := [(6, .int q12), (5, .int q10), (4, .int (((60 : Int32) * i1) + i2)), (0, .ref aD.1), (1, .int i1), (2, .int i2), (3, .int i3)]) hx hb dX10_splitVerse_77 hl (by decide) rfl (fun ls hl => ?_)
          exact L79 4000 vD0 q8.1 q8.2 i1 i2 i3 (((60 : Int32) * i1) + i2) q10 q12 _ _ _ h hP hD hS (lv_sub hl [3, 4, 5, 6, 2, 1, 0] rfl)
        · rw [if_pos g] at h
          refine lv_bipush (v := (-3 : Int32)) hx hb dX10_splitVerse_57 (by decide) ?_
          obtain rfl := Option.some.inj h
          exact W.iret (v := (-3 : Int32)) hx hb hr (fun t ht hW => ⟨⟨_, (), rfl, rfl, by rw [ht]; exact hP, hD⟩, hS.F ht⟩) hS.2.2 dX10_splitVerse_59
      · rw [if_neg g] at h
        refine lv_bipush (v := (-4 : Int32)) hx hb dX10_splitVerse_44 (by decide) ?_
        obtain rfl := Option.some.inj h
        exact W.iret (v := (-4 : Int32)) hx hb hr (fun t ht hW => ⟨⟨_, (), rfl, rfl, by rw [ht]; exact hP, hD⟩, hS.F ht⟩) hS.2.2 dX10_splitVerse_46
    · rw [if_pos g] at h
      refine lv_bipush (v := (-2 : Int32)) hx hb dX10_splitVerse_22 (by decide) ?_
      obtain rfl := Option.some.inj h
      exact W.iret (v := (-2 : Int32)) hx hb hr (fun t ht hW => ⟨⟨_, (), rfl, rfl, by rw [ht]; exact hP, hD⟩, hS.F ht⟩) hS.2.2 dX10_splitVerse_24
  · rw [if_neg g] at h
    refine lv_iconst (v := (-1 : Int32)) hx hb dX10_splitVerse_9 (by decide) ?_
    obtain rfl := Option.some.inj h
    exact W.iret (v := (-1 : Int32)) hx hb hr (fun t ht hW => ⟨⟨_, (), rfl, rfl, by rw [ht]; exact hP, hD⟩, hS.F ht⟩) hS.2.2 dX10_splitVerse_10
set_option maxHeartbeats 8000000 in
set_option maxRecDepth 100000 in
theorem kX10_link (l : Launch) (D : va_G) (cI cC cS : ClassId) (aD : Nat × Nat × Nat × Nat × Nat × Nat × Nat × Nat × Nat × Nat × Nat) (vD0 : (Nat → Int32)) (vD1 : (Nat → Int32)) (vD2 : Int32) (vD3 : Int32) (vD4 : (Nat → Int32)) (vD5 : Int32) (vD6 : Int32) (vD7 : Int32) (vD8 : Int32) (vD9 : Int32) (vD10 : Int32) (vD11 : (Nat → Int32)) (vD12 : (Nat → Int32)) (vD13 : Int32) (vD14 : Int32) (vD15 : (Nat → Int32)) (vD16 : Int32) (vD17 : Int32) (vD18 : Int32) (vD19 : (Nat → Int32)) (vD20 : (Nat → Int32)) (vD21 : (Nat → Int32)) (vD22 : (Nat → Int32)) (i1 : Int32) (sz : Nat) {q : Int32 × (Nat → Int32) × (Nat → Int32) × Int32} (h : pX10_link vD0 vD1 vD2 i1 = some q) : kMi l yX10_link wsX10_link ({ frames := 2, cells := 0, slots := 0, locals := 44 } : Room) D (kTy cI cC cS) [.ref aD.1, .int i1] (wMD cC cI aD vD0 vD1 vD2 vD3 vD4 vD5 vD6 vD7 vD8 vD9 vD10 vD11 vD12 vD13 vD14 vD15 vD16 vD17 vD18 vD19 vD20 vD21 vD22) sz q.1 (wMD cC cI aD q.2.1 q.2.2.1 q.2.2.2 vD3 vD4 vD5 vD6 vD7 vD8 vD9 vD10 vD11 vD12 vD13 vD14 vD15 vD16 vD17 vD18 vD19 vD20 vD21 vD22) := by
  refine Met.ofW (cc := cX10_link) (maxL := 2) (ret := (some .int)) (by decide) rfl ?_
  intro p e s m args below meth c s₁ B hml hv
  obtain ⟨rfl, hsz, hP, hK, hD0, hN⟩ := hv
  have hx := B.exec
  have hb := B.bytes
  have hr := B.returns
  have hts := atoms_spec (ws := wsX10_link) B.pre
  have hown : s.vm.findClass RX10 = some m.cls := findClass_of_methodNamed B.named
  have hlocks := B.notSynchronized
  subst hsz
  have hD := hD0.self (sz := s.heap.size)
  generalize hAe : va_A (wMD cC cI aD vD0 vD1 vD2 vD3 vD4 vD5 vD6 vD7 vD8 vD9 vD10 vD11 vD12 vD13 vD14 vD15 vD16 vD17 vD18 vD19 vD20 vD21 vD22) s.heap.size = A at hD ⊢
  have hA : ∀ q : Nat, s.heap.size ≤ q → A q := fun q h => by rw [← hAe]; exact Or.inr h
  have hS : va_S A s.heap s.heap [] := va_S.rf
  have hl := lv_entry ([.ref aD.1, .int i1]) (n := 2) (Nat.le_of_ble_eq_true rfl)
  rw [lg_entry_eq]
  generalize (lg_sl ([.ref aD.1, .int i1]) ++ List.replicate (2 - (lg_sl ([.ref aD.1, .int i1])).length) Slot.unset).toArray = ls at hl ⊢
  have hl : lv_has ls 2 [(0, .ref aD.1), (1, .int i1)] := hl
  unfold pX10_link at h
  refine lv_aload_n hx hb dX10_link_0 rfl (lv_at hl 0 rfl) ?_
  refine lv_iload_n hx hb dX10_link_1 rfl (lv_at hl 1 rfl) ?_
  obtain ⟨q2, h1, h⟩ := Option.bind_eq_some_iff.mp h
  refine kcir [0, 1, 2, 3, 4, 5, 6, 7, 8, 9, 10] (va_runV (As := [.int i1]) (rest := []) ⟨hx, hb, hml, hown, hts⟩ (kX10_noGroup l D cI cC cS aD vD0 vD1 vD2 vD3 vD4 vD5 vD6 vD7 vD8 vD9 vD10 vD11 vD12 vD13 vD14 vD15 vD16 vD17 vD18 vD19 vD20 vD21 vD22 i1 s.heap.size h1) (cwV 1 hts gX10_link_X10_noGroup rfl rfl rfl (by decide +kernel) ⟨Nat.le_of_ble_eq_true rfl, Nat.le_of_ble_eq_true rfl⟩) (kpreV hK hN hP hD [0, 1, 2, 3, 4, 5, 6, 7, 8, 9, 10] rfl (by decide) 10 rfl rfl) rfl rfl hl.1 rfl (lv_room (Nat.le_of_ble_eq_true rfl)) dX10_link_2 ⟨Nat.le_refl _, Nat.le_refl _⟩) hP hD hS hA rfl (fun H locs hP hS => ?_)
  refine lv_if_eq (tgt := 10) hx hb dX10_link_5 (by decide) (fun g => ?_) (fun g => ?_)
  · rw [if_pos g] at h
    refine lv_iload_n hx hb dX10_link_10 rfl (lv_at hl 1 rfl) ?_
    refine lv_iconst (v := (1 : Int32)) hx hb dX10_link_11 (by decide) ?_
    refine lv_iadd hx hb dX10_link_12 ?_
    refine lv_aload_n hx hb dX10_link_13 rfl (lv_at hl 0 rfl) ?_
    obtain ⟨q4, h3, h⟩ := Option.bind_eq_some_iff.mp h
    refine kcir [0, 1, 2, 3, 4, 5, 6, 7, 8, 9, 10] (va_runV (As := []) (rest := [.int (i1 + (1 : Int32))]) ⟨hx, hb, hml, hown, hts⟩ (kX10_groups l D cI cC cS aD vD0 vD1 vD2 vD3 vD4 vD5 vD6 vD7 vD8 vD9 vD10 vD11 vD12 vD13 vD14 vD15 vD16 vD17 vD18 vD19 vD20 vD21 vD22 H.size h3) (cwV 0 hts gX10_link_X10_groups rfl rfl rfl (by decide +kernel) ⟨Nat.le_of_ble_eq_true rfl, Nat.le_of_ble_eq_true rfl⟩) (kpreV hK hN hP hD [0, 1, 2, 3, 4, 5, 6, 7, 8, 9, 10] rfl (by decide) 10 rfl rfl) rfl rfl hl.1 rfl (lv_room (Nat.le_of_ble_eq_true rfl)) dX10_link_14 ⟨Nat.le_refl _, Nat.le_refl _⟩) hP hD hS hA rfl (fun H locs hP hS => ?_)
    refine lv_icmp_ne (tgt := 23) hx hb dX10_link_17 (by decide) (fun g => ?_) (fun g => ?_)
    · rw [if_neg g] at h
      refine lv_aload_n hx hb dX10_link_23 rfl (lv_at hl 0 rfl) ?_
      obtain ⟨q6, h5, h⟩ := Option.bind_eq_some_iff.mp h
      refine kcvw (ws' := (wMD cC cI aD vD0 q6.1 q6.2 vD3 vD4 vD5 vD6 vD7 vD8 vD9 vD10 vD11 vD12 vD13 vD14 vD15 vD16 vD17 vD18 vD19 vD20 vD21 vD22)) [0, 1, 2, 3, 4, 5, 6, 7, 8, 9, 10] (va_runV (As := []) (rest := []) ⟨hx, hb, hml, hown, hts⟩ (kX10_record l D cI cC cS aD vD0 vD1 vD2 vD3 vD4 vD5 vD6 vD7 vD8 vD9 vD10 vD11 vD12 vD13 vD14 vD15 vD16 vD17 vD18 vD19 vD20 vD21 vD22 H.size h5) (cwV 0 hts gX10_link_X10_record rfl rfl rfl (by decide +kernel) ⟨Nat.le_of_ble_eq_true rfl, Nat.le_of_ble_eq_true rfl⟩) (kpreV hK hN hP hD [0, 1, 2, 3, 4, 5, 6, 7, 8, 9, 10] rfl (by decide) 10 rfl rfl) rfl rfl hl.1 rfl (lv_room (Nat.le_of_ble_eq_true rfl)) dX10_link_24 ⟨Nat.le_refl _, Nat.le_refl _⟩) hP hD hS hA rfl (by decide) rfl [1, 2, 3, 4, 5, 6, 7, 8, 9, 10, 11] (by decide +kernel) rfl (fun H locs hP hD hS => ?_)
      refine lv_aload_n hx hb dX10_link_27 rfl (lv_at hl 0 rfl) ?_
      refine lv_iload_n hx hb dX10_link_28 rfl (lv_at hl 1 rfl) ?_
      refine lv_iload_n hx hb dX10_link_29 rfl (lv_at hl 1 rfl) ?_
      refine lv_iconst (v := (1 : Int32)) hx hb dX10_link_30 (by decide) ?_
      refine lv_iadd hx hb dX10_link_31 ?_
      obtain ⟨q8, h7, h⟩ := Option.bind_eq_some_iff.mp h
      refine kcvw (ws' := (wMD cC cI aD q8 q6.1 q6.2 vD3 vD4 vD5 vD6 vD7 vD8 vD9 vD10 vD11 vD12 vD13 vD14 vD15 vD16 vD17 vD18 vD19 vD20 vD21 vD22)) [0, 1, 2, 3, 4, 5, 6, 7, 8, 9, 10] (va_runV (As := [.int i1, .int (i1 + (1 : Int32))]) (rest := []) ⟨hx, hb, hml, hown, hts⟩ (kX10_joinGroups l D cI cC cS aD vD0 q6.1 q6.2 vD3 vD4 vD5 vD6 vD7 vD8 vD9 vD10 vD11 vD12 vD13 vD14 vD15 vD16 vD17 vD18 vD19 vD20 vD21 vD22 i1 (i1 + (1 : Int32)) H.size h7) (cwV 2 hts gX10_link_X10_joinGroups rfl rfl rfl (by decide +kernel) ⟨Nat.le_of_ble_eq_true rfl, Nat.le_of_ble_eq_true rfl⟩) (kpreV hK hN hP hD [0, 1, 2, 3, 4, 5, 6, 7, 8, 9, 10] rfl (by decide) 10 rfl rfl) rfl rfl hl.1 rfl (lv_room (Nat.le_of_ble_eq_true rfl)) dX10_link_32 ⟨Nat.le_refl _, Nat.le_refl _⟩) hP hD hS hA rfl (by decide) rfl [1, 2, 3, 4, 5, 6, 7, 8, 9, 10, 11] (by decide +kernel) rfl (fun H locs hP hD hS => ?_)
      refine lv_aload_n hx hb dX10_link_35 rfl (lv_at hl 0 rfl) ?_
      obtain ⟨q10, h9, h⟩ := Option.bind_eq_some_iff.mp h
      refine kcir [0, 1, 2, 3, 4, 5, 6, 7, 8, 9, 10] (va_runV (As := []) (rest := []) ⟨hx, hb, hml, hown, hts⟩ (kX10_groups l D cI cC cS aD q8 q6.1 q6.2 vD3 vD4 vD5 vD6 vD7 vD8 vD9 vD10 vD11 vD12 vD13 vD14 vD15 vD16 vD17 vD18 vD19 vD20 vD21 vD22 H.size h9) (cwV 0 hts gX10_link_X10_groups rfl rfl rfl (by decide +kernel) ⟨Nat.le_of_ble_eq_true rfl, Nat.le_of_ble_eq_true rfl⟩) (kpreV hK hN hP hD [0, 1, 2, 3, 4, 5, 6, 7, 8, 9, 10] rfl (by decide) 10 rfl rfl) rfl rfl hl.1 rfl (lv_room (Nat.le_of_ble_eq_true rfl)) dX10_link_36 ⟨Nat.le_refl _, Nat.le_refl _⟩) hP hD hS hA rfl (fun H locs hP hS => ?_)
      obtain rfl := Option.some.inj h
      exact W.iret (v := q10) hx hb hr (fun t ht hW => ⟨⟨_, (), rfl, rfl, by rw [ht]; exact hP, hD⟩, hS.F ht⟩) hS.2.2 dX10_link_39
    · rw [if_pos g] at h
      refine lv_bipush (v := (-4 : Int32)) hx hb dX10_link_20 (by decide) ?_
      obtain rfl := Option.some.inj h
      exact W.iret (v := (-4 : Int32)) hx hb hr (fun t ht hW => ⟨⟨_, (), rfl, rfl, by rw [ht]; exact hP, hD⟩, hS.F ht⟩) hS.2.2 dX10_link_22
  · rw [if_neg g] at h
    refine lv_iconst (v := (-1 : Int32)) hx hb dX10_link_8 (by decide) ?_
    obtain rfl := Option.some.inj h
    exact W.iret (v := (-1 : Int32)) hx hb hr (fun t ht hW => ⟨⟨_, (), rfl, rfl, by rw [ht]; exact hP, hD⟩, hS.F ht⟩) hS.2.2 dX10_link_9
