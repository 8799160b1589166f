-- walks: ref (printed by wip/whole/gen)
set_option maxHeartbeats 8000000 in
set_option maxRecDepth 100000 in
theorem kX10_part (l : Launch) (D : va_G) (cI cC cS : ClassId) (aD : Nat × Nat × Nat × Nat × Nat × Nat × Nat × Nat × Nat × Nat × Nat) (vD0 : (Nat → Int32)) (vD1 : (Nat → Int32)) (vD2 : Int32) (vD3 : Int32) (vD4 : (Nat → Int32)) (vD5 : Int32) (vD6 : Int32) (vD7 : Int32) (vD8 : Int32) (vD9 : Int32) (vD10 : Int32) (vD11 : (Nat → Int32)) (vD12 : (Nat → Int32)) (vD13 : Int32) (vD14 : Int32) (vD15 : (Nat → Int32)) (vD16 : Int32) (vD17 : Int32) (vD18 : Int32) (vD19 : (Nat → Int32)) (vD20 : (Nat → Int32)) (vD21 : (Nat → Int32)) (vD22 : (Nat → Int32)) (i1 : Int32) (i2 : Int32) (i3 : Int32) (sz : Nat) {q : Int32 × (Nat → Int32) × (Nat → Int32) × Int32} (h : pX10_part vD0 vD1 vD2 i1 i2 i3 = some q) : kMi l yX10_part wsX10_part ({ frames := 2, cells := 0, slots := 0, locals := 43 } : Room) D (kTy cI cC cS) [.ref aD.1, .int i1, .int i2, .int i3] (wMD cC cI aD vD0 vD1 vD2 vD3 vD4 vD5 vD6 vD7 vD8 vD9 vD10 vD11 vD12 vD13 vD14 vD15 vD16 vD17 vD18 vD19 vD20 vD21 vD22) sz q.1 (wMD cC cI aD q.2.1 q.2.2.1 q.2.2.2 vD3 vD4 vD5 vD6 vD7 vD8 vD9 vD10 vD11 vD12 vD13 vD14 vD15 vD16 vD17 vD18 vD19 vD20 vD21 vD22) := by
  refine Met.ofW (cc := cX10_part) (maxL := 7) (ret := (some .int)) (by decide) rfl ?_
  intro p e s m args below meth c s₁ B hml hv
  obtain ⟨rfl, hsz, hP, hK, hD0, hN⟩ := hv
  have hx := B.exec
  have hb := B.bytes
  have hr := B.returns
  have hts := atoms_spec (ws := wsX10_part) B.pre
  have hown : s.vm.findClass RX10 = some m.cls := findClass_of_methodNamed B.named
  have hlocks := B.notSynchronized
  subst hsz
  have hD := hD0.self (sz := s.heap.size)
  generalize hAe : va_A (wMD cC cI aD vD0 vD1 vD2 vD3 vD4 vD5 vD6 vD7 vD8 vD9 vD10 vD11 vD12 vD13 vD14 vD15 vD16 vD17 vD18 vD19 vD20 vD21 vD22) s.heap.size = A at hD ⊢
  have hA : ∀ q : Nat, s.heap.size ≤ q → A q := fun q h => by rw [← hAe]; exact Or.inr h
  have hS : va_S A s.heap s.heap [] := va_S.rf
  have huX10 : ∀ w ∈ u_ws RX10 TX10 23, w ∈ wsX10_part := by decide +kernel
  have hl := lv_entry ([.ref aD.1, .int i1, .int i2, .int i3]) (n := 7) (Nat.le_of_ble_eq_true rfl)
  rw [lg_entry_eq]
  generalize (lg_sl ([.ref aD.1, .int i1, .int i2, .int i3]) ++ List.replicate (7 - (lg_sl ([.ref aD.1, .int i1, .int i2, .int i3])).length) Slot.unset).toArray = ls at hl ⊢
  have hl : lv_has ls 7 [(0, .ref aD.1), (1, .int i1), (2, .int i2), (3, .int i3)] := hl
  have L90 : ∀ (nL90 : Nat) (c0_0 : (Nat → Int32)) (c0_1 : (Nat → Int32)) (c0_2 : Int32) (y1 : Int32) (y2 : Int32) (y3 : Int32) (y4 : Int32) (y5 : Int32) (y6 : Int32) (H : Heap) (locs : List Loc) (ls : Array Slot), pX10_part_L90  nL90 c0_0 c0_1 c0_2 y1 y2 y3 y4 y5 y6 = some q → va_P D vwCl (wMD cC cI aD c0_0 c0_1 c0_2 vD3 vD4 vD5 vD6 vD7 vD8 vD9 vD10 vD11 vD12 vD13 vD14 vD15 vD16 vD17 vD18 vD19 vD20 vD21 vD22) H → va_D A (wMD cC cI aD c0_0 c0_1 c0_2 vD3 vD4 vD5 vD6 vD7 vD8 vD9 vD10 vD11 vD12 vD13 vD14 vD15 vD16 vD17 vD18 vD19 vD20 vD21 vD22) → va_S A s.heap H locs → lv_has ls 7 [(0, .ref aD.1), (1, .int y1), (2, .int y2), (3, .int y3), (4, .int y4), (5, .int y5), (6, .int y6)] → W p l e ({ frames := 2, cells := 0, slots := 0, locals := 43 } : Room) s m ([.ref aD.1, .int i1, .int i2, .int i3] : List Value).toArray below meth c H locs 0 0 (MQ below (va_Qi (fun (r : Int32) (_ : Unit) => r = q.1) (fun _ => kPost D (wMD cC cI aD q.2.1 q.2.2.1 q.2.2.2 vD3 vD4 vD5 vD6 vD7 vD8 vD9 vD10 vD11 vD12 vD13 vD14 vD15 vD16 vD17 vD18 vD19 vD20 vD21 vD22) A) A) ([.ref aD.1, .int i1, .int i2, .int i3] : List Value).toArray s 0 0 A) (F0 m 90 ls []) := by
    clear h hP hD hS hl
    intro nL90
    induction nL90 with
    | zero => intro c0_0 c0_1 c0_2 y1 y2 y3 y4 y5 y6 H locs ls h; have h : (none : Option (Int32 × (Nat → Int32) × (Nat → Int32) × Int32)) = some q := h; cases h
    | succ nL90 ihL90 =>
      intro c0_0 c0_1 c0_2 y1 y2 y3 y4 y5 y6 H locs ls h hP hD hS hl
      have h : pX10_part_bL90 (pX10_part_L90  nL90) c0_0 c0_1 c0_2 y1 y2 y3 y4 y5 y6 = some q := h
      unfold pX10_part_bL90 at h
      refine lv_iload hx hb dX10_part_90 (lv_at hl 6 rfl) ?_
      refine lv_iload_n hx hb dX10_part_92 rfl (lv_at hl 1 rfl) ?_
      refine lv_iconst (v := (1 : Int32)) hx hb dX10_part_93 (by decide) ?_
      refine lv_iadd hx hb dX10_part_94 ?_
      refine lv_icmp_le (tgt := 152) hx hb dX10_part_95 (by decide) (fun g => ?_) (fun g => ?_)
      · rw [if_pos g] at h
        refine lv_aload_n hx hb dX10_part_152 rfl (lv_at hl 0 rfl) ?_
        refine va_get (D := D) (ci := 10) (v := .ref aD.2.1) (C := RX10) (T := TX10) (N := 23) hx hb hts huX10 hown hK hP 0 rfl rfl 0 (by decide) (hts (.fieldLink RX10 7 "VerseColumnsModel" "row" "[I") (by decide +kernel)) (fun _ h9 => h9) rfl dX10_part_153 ?_
        refine lv_sipush (v := (364 : Int32)) hx hb dX10_part_156 (by decide) ?_
        refine lv_dup2_11 hx hb dX10_part_159 rfl rfl ?_
        obtain ⟨g, h⟩ := kif h
        refine va_iald hx hb hK hP 1 0 rfl rfl (kin g) dX10_part_160 ?_
        refine lv_iconst (v := (1 : Int32)) hx hb dX10_part_161 (by decide) ?_
        refine lv_iadd hx hb dX10_part_162 ?_
        obtain ⟨g, h⟩ := kif h
        refine va_iast hx hb hK hP hD hS 1 0 rfl rfl (kin g) dX10_part_163 (fun H locs hP hD hS => ?_)
        have hP : va_P D vwCl (wMD cC cI aD (upd c0_0 (364 : Int32).toNatClampNeg ((c0_0 (364 : Int32).toNatClampNeg) + (1 : Int32))) c0_1 c0_2 vD3 vD4 vD5 vD6 vD7 vD8 vD9 vD10 vD11 vD12 vD13 vD14 vD15 vD16 vD17 vD18 vD19 vD20 vD21 vD22) H := hP
        have hD : va_D A (wMD cC cI aD (upd c0_0 (364 : Int32).toNatClampNeg ((c0_0 (364 : Int32).toNatClampNeg) + (1 : Int32))) c0_1 c0_2 vD3 vD4 vD5 vD6 vD7 vD8 vD9 vD10 vD11 vD12 vD13 vD14 vD15 vD16 vD17 vD18 vD19 vD20 vD21 vD22) := hD
        refine lv_aload_n hx hb dX10_part_164 rfl (lv_at hl 0 rfl) ?_
        refine va_get (D := D) (ci := 10) (v := .ref aD.2.1) (C := RX10) (T := TX10) (N := 23) hx hb hts huX10 hown hK hP 0 rfl rfl 0 (by decide) (hts (.fieldLink RX10 7 "VerseColumnsModel" "row" "[I") (by decide +kernel)) (fun _ h9 => h9) rfl dX10_part_165 ?_
        refine lv_sipush (v := (365 : Int32)) hx hb dX10_part_168 (by decide) ?_
        refine lv_iload_n hx hb dX10_part_171 rfl (lv_at hl 1 rfl) ?_
        refine lv_iadd hx hb dX10_part_172 ?_
        refine lv_iload_n hx hb dX10_part_173 rfl (lv_at hl 2 rfl) ?_
        obtain ⟨g, h⟩ := kif h
        refine va_iast hx hb hK hP hD hS 1 0 rfl rfl (kin g) dX10_part_174 (fun H locs hP hD hS => ?_)
        have hP : va_P D vwCl (wMD cC cI aD (upd (upd c0_0 (364 : Int32).toNatClampNeg ((c0_0 (364 : Int32).toNatClampNeg) + (1 : Int32))) ((365 : Int32) + y1).toNatClampNeg y2) c0_1 c0_2 vD3 vD4 vD5 vD6 vD7 vD8 vD9 vD10 vD11 vD12 vD13 vD14 vD15 vD16 vD17 vD18 vD19 vD20 vD21 vD22) H := hP
        have hD : va_D A (wMD cC cI aD (upd (upd c0_0 (364 : Int32).toNatClampNeg ((c0_0 (364 : Int32).toNatClampNeg) + (1 : Int32))) ((365 : Int32) + y1).toNatClampNeg y2) c0_1 c0_2 vD3 vD4 vD5 vD6 vD7 vD8 vD9 vD10 vD11 vD12 vD13 vD14 vD15 vD16 vD17 vD18 vD19 vD20 vD21 vD22) := hD
        refine lv_aload_n hx hb dX10_part_175 rfl (lv_at hl 0 rfl) ?_
        refine va_get (D := D) (ci := 10) (v := .ref aD.2.1) (C := RX10) (T := TX10) (N := 23) hx hb hts huX10 hown hK hP 0 rfl rfl 0 (by decide) (hts (.fieldLink RX10 7 "VerseColumnsModel" "row" "[I") (by decide +kernel)) (fun _ h9 => h9) rfl dX10_part_176 ?_
        refine lv_sipush (v := (485 : Int32)) hx hb dX10_part_179 (by decide) ?_
        refine lv_iload_n hx hb dX10_part_182 rfl (lv_at hl 1 rfl) ?_
        refine lv_iadd hx hb dX10_part_183 ?_
        refine lv_iload_n hx hb dX10_part_184 rfl (lv_at hl 3 rfl) ?_
        obtain ⟨g, h⟩ := kif h
        refine va_iast hx hb hK hP hD hS 1 0 rfl rfl (kin g) dX10_part_185 (fun H locs hP hD hS => ?_)
        have hP : va_P D vwCl (wMD cC cI aD (upd (upd (upd c0_0 (364 : Int32).toNatClampNeg ((c0_0 (364 : Int32).toNatClampNeg) + (1 : Int32))) ((365 : Int32) + y1).toNatClampNeg y2) ((485 : Int32) + y1).toNatClampNeg y3) c0_1 c0_2 vD3 vD4 vD5 vD6 vD7 vD8 vD9 vD10 vD11 vD12 vD13 vD14 vD15 vD16 vD17 vD18 vD19 vD20 vD21 vD22) H := hP
        have hD : va_D A (wMD cC cI aD (upd (upd (upd c0_0 (364 : Int32).toNatClampNeg ((c0_0 (364 : Int32).toNatClampNeg) + (1 : Int32))) ((365 : Int32) + y1).toNatClampNeg y2) ((485 : Int32) + y1).toNatClampNeg y3) c0_1 c0_2 vD3 vD4 vD5 vD6 vD7 vD8 vD9 vD10 vD11 vD12 vD13 vD14 vD15 vD16 vD17 vD18 vD19 vD20 vD21 vD22) := hD
        refine lv_aload_n hx hb dX10_part_186 rfl (lv_at hl 0 rfl) ?_
        refine va_get (D := D) (ci := 10) (v := .ref aD.2.1) (C := RX10) (T := TX10) (N := 23) hx hb hts huX10 hown hK hP 0 rfl rfl 0 (by decide) (hts (.fieldLink RX10 7 "VerseColumnsModel" "row" "[I") (by decide +kernel)) (fun _ h9 => h9) rfl dX10_part_187 ?_
        refine lv_sipush (v := (365 : Int32)) hx hb dX10_part_190 (by decide) ?_
        refine lv_iload_n hx hb dX10_part_193 rfl (lv_at hl 1 rfl) ?_
        refine lv_iadd hx hb dX10_part_194 ?_
        refine lv_iconst (v := (1 : Int32)) hx hb dX10_part_195 (by decide) ?_
        refine lv_iadd hx hb dX10_part_196 ?_
        refine lv_iload hx hb dX10_part_197 (lv_at hl 4 rfl) ?_
        obtain ⟨g, h⟩ := kif h
        refine va_iast hx hb hK hP hD hS 1 0 rfl rfl (kin g) dX10_part_199 (fun H locs hP hD hS => ?_)
        have hP : va_P D vwCl (wMD cC cI aD (upd (upd (upd (upd c0_0 (364 : Int32).toNatClampNeg ((c0_0 (364 : Int32).toNatClampNeg) + (1 : Int32))) ((365 : Int32) + y1).toNatClampNeg y2) ((485 : Int32) + y1).toNatClampNeg y3) (((365 : Int32) + y1) + (1 : Int32)).toNatClampNeg y4) c0_1 c0_2 vD3 vD4 vD5 vD6 vD7 vD8 vD9 vD10 vD11 vD12 vD13 vD14 vD15 vD16 vD17 vD18 vD19 vD20 vD21 vD22) H := hP
        have hD : va_D A (wMD cC cI aD (upd (upd (upd (upd c0_0 (364 : Int32).toNatClampNeg ((c0_0 (364 : Int32).toNatClampNeg) + (1 : Int32))) ((365 : Int32) + y1).toNatClampNeg y2) ((485 : Int32) + y1).toNatClampNeg y3) (((365 : Int32) + y1) + (1 : Int32)).toNatClampNeg y4) c0_1 c0_2 vD3 vD4 vD5 vD6 vD7 vD8 vD9 vD10 vD11 vD12 vD13 vD14 vD15 vD16 vD17 vD18 vD19 vD20 vD21 vD22) := hD
        refine lv_aload_n hx hb dX10_part_200 rfl (lv_at hl 0 rfl) ?_
        refine va_get (D := D) (ci := 10) (v := .ref aD.2.1) (C := RX10) (T := TX10) (N := 23) hx hb hts huX10 hown hK hP 0 rfl rfl 0 (by decide) (hts (.fieldLink RX10 7 "VerseColumnsModel" "row" "[I") (by decide +kernel)) (fun _ h9 => h9) rfl dX10_part_201 ?_
        refine lv_sipush (v := (485 : Int32)) hx hb dX10_part_204 (by decide) ?_
        refine lv_iload_n hx hb dX10_part_207 rfl (lv_at hl 1 rfl) ?_
        refine lv_iadd hx hb dX10_part_208 ?_
        refine lv_iconst (v := (1 : Int32)) hx hb dX10_part_209 (by decide) ?_
        refine lv_iadd hx hb dX10_part_210 ?_
        refine lv_iload hx hb dX10_part_211 (lv_at hl 5 rfl) ?_
        obtain ⟨g, h⟩ := kif h
        refine va_iast hx hb hK hP hD hS 1 0 rfl rfl (kin g) dX10_part_213 (fun H locs hP hD hS => ?_)
        have hP : va_P D vwCl (wMD cC cI aD (upd (upd (upd (upd (upd c0_0 (364 : Int32).toNatClampNeg ((c0_0 (364 : Int32).toNatClampNeg) + (1 : Int32))) ((365 : Int32) + y1).toNatClampNeg y2) ((485 : Int32) + y1).toNatClampNeg y3) (((365 : Int32) + y1) + (1 : Int32)).toNatClampNeg y4) (((485 : Int32) + y1) + (1 : Int32)).toNatClampNeg y5) c0_1 c0_2 vD3 vD4 vD5 vD6 vD7 vD8 vD9 vD10 vD11 vD12 vD13 vD14 vD15 vD16 vD17 vD18 vD19 vD20 vD21 vD22) H := hP
        have hD : va_D A (wMD cC cI aD (upd (upd (upd (upd (upd c0_0 (364 : Int32).toNatClampNeg ((c0_0 (364 : Int32).toNatClampNeg) + (1 : Int32))) ((365 : Int32) + y1).toNatClampNeg y2) ((485 : Int32) + y1).toNatClampNeg y3) (((365 : Int32) + y1) + (1 : Int32)).toNatClampNeg y4) (((485 : Int32) + y1) + (1 : Int32)).toNatClampNeg y5) c0_1 c0_2 vD3 vD4 vD5 vD6 vD7 vD8 vD9 vD10 vD11 vD12 vD13 vD14 vD15 vD16 vD17 vD18 vD19 vD20 vD21 vD22) := hD
        refine lv_aload_n hx hb dX10_part_214 rfl (lv_at hl 0 rfl) ?_
        obtain ⟨q16, h15, h⟩ := Option.bind_eq_some_iff.mp h
        refine kcir [0, 1, 2, 3, 4, 5, 6, 7, 8, 9, 10] (va_runV (As := []) (rest := []) ⟨hx, hb, hml, hown, hts⟩ (kX10_groups l D cI cC cS aD (upd (upd (upd (upd (upd c0_0 (364 : Int32).toNatClampNeg ((c0_0 (364 : Int32).toNatClampNeg) + (1 : Int32))) ((365 : Int32) + y1).toNatClampNeg y2) ((485 : Int32) + y1).toNatClampNeg y3) (((365 : Int32) + y1) + (1 : Int32)).toNatClampNeg y4) (((485 : Int32) + y1) + (1 : Int32)).toNatClampNeg y5) c0_1 c0_2 vD3 vD4 vD5 vD6 vD7 vD8 vD9 vD10 vD11 vD12 vD13 vD14 vD15 vD16 vD17 vD18 vD19 vD20 vD21 vD22 H.size h15) (cwV 0 hts gX10_part_X10_groups rfl rfl rfl (by decide +kernel) ⟨Nat.le_of_ble_eq_true rfl, Nat.le_of_ble_eq_true rfl⟩) (kpreV hK hN hP hD [0, 1, 2, 3, 4, 5, 6, 7, 8, 9, 10] rfl (by decide) 10 rfl rfl) rfl rfl hl.1 rfl (lv_room (Nat.le_of_ble_eq_true rfl)) dX10_part_215 ⟨Nat.le_refl _, Nat.le_refl _⟩) hP hD hS hA rfl (fun H locs hP hS => ?_)
        obtain rfl := Option.some.inj h
        exact W.iret (v := q16) hx hb hr (fun t ht hW => ⟨⟨_, (), rfl, rfl, by rw [ht]; exact hP, hD⟩, hS.F ht⟩) hS.2.2 dX10_part_218
      · rw [if_neg g] at h
        refine lv_aload_n hx hb dX10_part_98 rfl (lv_at hl 0 rfl) ?_
        refine va_get (D := D) (ci := 10) (v := .ref aD.2.1) (C := RX10) (T := TX10) (N := 23) hx hb hts huX10 hown hK hP 0 rfl rfl 0 (by decide) (hts (.fieldLink RX10 7 "VerseColumnsModel" "row" "[I") (by decide +kernel)) (fun _ h9 => h9) rfl dX10_part_99 ?_
        refine lv_sipush (v := (365 : Int32)) hx hb dX10_part_102 (by decide) ?_
        refine lv_iload hx hb dX10_part_105 (lv_at hl 6 rfl) ?_
        refine lv_iadd hx hb dX10_part_107 ?_
        refine lv_aload_n hx hb dX10_part_108 rfl (lv_at hl 0 rfl) ?_
        refine va_get (D := D) (ci := 10) (v := .ref aD.2.1) (C := RX10) (T := TX10) (N := 23) hx hb hts huX10 hown hK hP 0 rfl rfl 0 (by decide) (hts (.fieldLink RX10 7 "VerseColumnsModel" "row" "[I") (by decide +kernel)) (fun _ h9 => h9) rfl dX10_part_109 ?_
        refine lv_sipush (v := (365 : Int32)) hx hb dX10_part_112 (by decide) ?_
        refine lv_iload hx hb dX10_part_115 (lv_at hl 6 rfl) ?_
        refine lv_iadd hx hb dX10_part_117 ?_
        refine lv_iconst (v := (1 : Int32)) hx hb dX10_part_118 (by decide) ?_
        refine lv_isub hx hb dX10_part_119 ?_
        obtain ⟨g, h⟩ := kif h
        refine va_iald hx hb hK hP 1 0 rfl rfl (kin g) dX10_part_120 ?_
        obtain ⟨g, h⟩ := kif h
        refine va_iast hx hb hK hP hD hS 1 0 rfl rfl (kin g) dX10_part_121 (fun H locs hP hD hS => ?_)
        have hP : va_P D vwCl (wMD cC cI aD (upd c0_0 ((365 : Int32) + y6).toNatClampNeg (c0_0 (((365 : Int32) + y6) - (1 : Int32)).toNatClampNeg)) c0_1 c0_2 vD3 vD4 vD5 vD6 vD7 vD8 vD9 vD10 vD11 vD12 vD13 vD14 vD15 vD16 vD17 vD18 vD19 vD20 vD21 vD22) H := hP
        have hD : va_D A (wMD cC cI aD (upd c0_0 ((365 : Int32) + y6).toNatClampNeg (c0_0 (((365 : Int32) + y6) - (1 : Int32)).toNatClampNeg)) c0_1 c0_2 vD3 vD4 vD5 vD6 vD7 vD8 vD9 vD10 vD11 vD12 vD13 vD14 vD15 vD16 vD17 vD18 vD19 vD20 vD21 vD22) := hD
        refine lv_aload_n hx hb dX10_part_122 rfl (lv_at hl 0 rfl) ?_
        refine va_get (D := D) (ci := 10) (v := .ref aD.2.1) (C := RX10) (T := TX10) (N := 23) hx hb hts huX10 hown hK hP 0 rfl rfl 0 (by decide) (hts (.fieldLink RX10 7 "VerseColumnsModel" "row" "[I") (by decide +kernel)) (fun _ h9 => h9) rfl dX10_part_123 ?_
        refine lv_sipush (v := (485 : Int32)) hx hb dX10_part_126 (by decide) ?_
        refine lv_iload hx hb dX10_part_129 (lv_at hl 6 rfl) ?_
        refine lv_iadd hx hb dX10_part_131 ?_
        refine lv_aload_n hx hb dX10_part_132 rfl (lv_at hl 0 rfl) ?_
        refine va_get (D := D) (ci := 10) (v := .ref aD.2.1) (C := RX10) (T := TX10) (N := 23) hx hb hts huX10 hown hK hP 0 rfl rfl 0 (by decide) (hts (.fieldLink RX10 7 "VerseColumnsModel" "row" "[I") (by decide +kernel)) (fun _ h9 => h9) rfl dX10_part_133 ?_
        refine lv_sipush (v := (485 : Int32)) hx hb dX10_part_136 (by decide) ?_
        refine lv_iload hx hb dX10_part_139 (lv_at hl 6 rfl) ?_
        refine lv_iadd hx hb dX10_part_141 ?_
        refine lv_iconst (v := (1 : Int32)) hx hb dX10_part_142 (by decide) ?_
        refine lv_isub hx hb dX10_part_143 ?_
        obtain ⟨g, h⟩ := kif h
        refine va_iald hx hb hK hP 1 0 rfl rfl (kin g) dX10_part_144 ?_
        obtain ⟨g, h⟩ := kif h
        refine va_iast hx hb hK hP hD hS 1 0 rfl rfl (kin g) dX10_part_145 (fun H locs hP hD hS => ?_)
        have hP : va_P D vwCl (wMD cC cI aD (upd (upd c0_0 ((365 : Int32) + y6).toNatClampNeg (c0_0 (((365 : Int32) + y6) - (1 : Int32)).toNatClampNeg)) ((485 : Int32) + y6).toNatClampNeg ((upd c0_0 ((365 : Int32) + y6).toNatClampNeg (c0_0 (((365 : Int32) + y6) - (1 : Int32)).toNatClampNeg)) (((485 : Int32) + y6) - (1 : Int32)).toNatClampNeg)) c0_1 c0_2 vD3 vD4 vD5 vD6 vD7 vD8 vD9 vD10 vD11 vD12 vD13 vD14 vD15 vD16 vD17 vD18 vD19 vD20 vD21 vD22) H := hP
        have hD : va_D A (wMD cC cI aD (upd (upd c0_0 ((365 : Int32) + y6).toNatClampNeg (c0_0 (((365 : Int32) + y6) - (1 : Int32)).toNatClampNeg)) ((485 : Int32) + y6).toNatClampNeg ((upd c0_0 ((365 : Int32) + y6).toNatClampNeg (c0_0 (((365 : Int32) + y6) - (1 : Int32)).toNatClampNeg)) (((485 : Int32) + y6) - (1 : Int32)).toNatClampNeg)) c0_1 c0_2 vD3 vD4 vD5 vD6 vD7 vD8 vD9 vD10 vD11 vD12 vD13 vD14 vD15 vD16 vD17 vD18 vD19 vD20 vD21 vD22) := hD
        refine lv_iinc (v := (y6 + (-1 : Int32))) (lv' := [(6, .int (y6 + (-1 : Int32))), (0, .ref aD.1), (1, .int y1), (2, .int y2), (3, .int y3), (4, .int y4), (5, .int y5)]) hx hb dX10_part_146 hl (k := 6) rfl rfl (by decide) rfl (fun ls hl => ?_)
        refine lv_goto (tgt := 90) hx hb dX10_part_149 (by decide) ?_
        exact ihL90 (upd (upd c0_0 ((365 : Int32) + y6).toNatClampNeg (c0_0 (((365 : Int32) + y6) - (1 : Int32)).toNatClampNeg)) ((485 : Int32) + y6).toNatClampNeg ((upd c0_0 ((365 : Int32) + y6).toNatClampNeg (c0_0 (((365 : Int32) + y6) - (1 : Int32)).toNatClampNeg)) (((485 : Int32) + y6) - (1 : Int32)).toNatClampNeg)) c0_1 c0_2 y1 y2 y3 y4 y5 (y6 + (-1 : Int32)) _ _ _ h hP hD hS (lv_sub hl [1, 2, 3, 4, 5, 6, 0] rfl)
  unfold pX10_part at h
  refine lv_aload_n hx hb dX10_part_0 rfl (lv_at hl 0 rfl) ?_
  refine lv_iload_n hx hb dX10_part_1 rfl (lv_at hl 1 rfl) ?_
  obtain ⟨q2, h1, h⟩ := Option.bind_eq_some_iff.mp h
  refine kcir [0, 1, 2, 3, 4, 5, 6, 7, 8, 9, 10] (va_runV (As := [.int i1]) (rest := []) ⟨hx, hb, hml, hown, hts⟩ (kX10_noGroup l D cI cC cS aD vD0 vD1 vD2 vD3 vD4 vD5 vD6 vD7 vD8 vD9 vD10 vD11 vD12 vD13 vD14 vD15 vD16 vD17 vD18 vD19 vD20 vD21 vD22 i1 s.heap.size h1) (cwV 1 hts gX10_part_X10_noGroup rfl rfl rfl (by decide +kernel) ⟨Nat.le_of_ble_eq_true rfl, Nat.le_of_ble_eq_true rfl⟩) (kpreV hK hN hP hD [0, 1, 2, 3, 4, 5, 6, 7, 8, 9, 10] rfl (by decide) 10 rfl rfl) rfl rfl hl.1 rfl (lv_room (Nat.le_of_ble_eq_true rfl)) dX10_part_2 ⟨Nat.le_refl _, Nat.le_refl _⟩) hP hD hS hA rfl (fun H locs hP hS => ?_)
  refine lv_if_eq (tgt := 10) hx hb dX10_part_5 (by decide) (fun g => ?_) (fun g => ?_)
  · rw [if_pos g] at h
    refine lv_iload_n hx hb dX10_part_10 rfl (lv_at hl 2 rfl) ?_
    refine lv_iconst (v := (0 : Int32)) hx hb dX10_part_11 (by decide) ?_
    refine lv_bipush (v := (60 : Int32)) hx hb dX10_part_12 (by decide) ?_
    obtain ⟨q4, h3, h⟩ := Option.bind_eq_some_iff.mp h
    refine kcir [] (va_runS (As := [.int i2, .int (0 : Int32), .int (60 : Int32)]) (rest := []) ⟨hx, hb, hml, hown, hts⟩ (kX10_in l D cI cC cS i2 (0 : Int32) (60 : Int32) H.size h3) (cwS 3 hts gX10_part_X10_in rfl rfl rfl (by decide +kernel) ⟨Nat.le_of_ble_eq_true rfl, Nat.le_of_ble_eq_true rfl⟩) (kpre hK hN hP hD [] rfl (by decide)) rfl rfl hl.1 rfl (lv_room (Nat.le_of_ble_eq_true rfl)) dX10_part_14 ⟨Nat.le_refl _, Nat.le_refl _⟩) hP hD hS hA rfl (fun H locs hP hS => ?_)
    refine lv_if_eq (tgt := 30) hx hb dX10_part_17 (by decide) (fun g => ?_) (fun g => ?_)
    · rw [if_pos g] at h
      refine lv_bipush (v := (-2 : Int32)) hx hb dX10_part_30 (by decide) ?_
      obtain rfl := Option.some.inj h
      exact W.iret (v := (-2 : Int32)) hx hb hr (fun t ht hW => ⟨⟨_, (), rfl, rfl, by rw [ht]; exact hP, hD⟩, hS.F ht⟩) hS.2.2 dX10_part_32
    · rw [if_neg g] at h
      refine lv_iload_n hx hb dX10_part_20 rfl (lv_at hl 3 rfl) ?_
      refine lv_iconst (v := (0 : Int32)) hx hb dX10_part_21 (by decide) ?_
      refine lv_bipush (v := (60 : Int32)) hx hb dX10_part_22 (by decide) ?_
      obtain ⟨q6, h5, h⟩ := Option.bind_eq_some_iff.mp h
      refine kcir [] (va_runS (As := [.int i3, .int (0 : Int32), .int (60 : Int32)]) (rest := []) ⟨hx, hb, hml, hown, hts⟩ (kX10_in l D cI cC cS i3 (0 : Int32) (60 : Int32) H.size h5) (cwS 3 hts gX10_part_X10_in rfl rfl rfl (by decide +kernel) ⟨Nat.le_of_ble_eq_true rfl, Nat.le_of_ble_eq_true rfl⟩) (kpre hK hN hP hD [] rfl (by decide)) rfl rfl hl.1 rfl (lv_room (Nat.le_of_ble_eq_true rfl)) dX10_part_24 ⟨Nat.le_refl _, Nat.le_refl _⟩) hP hD hS hA rfl (fun H locs hP hS => ?_)
      refine lv_if_ne (tgt := 33) hx hb dX10_part_27 (by decide) (fun g => ?_) (fun g => ?_)
      · rw [if_neg g] at h
        refine lv_aload_n hx hb dX10_part_33 rfl (lv_at hl 0 rfl) ?_
        refine lv_iload_n hx hb dX10_part_34 rfl (lv_at hl 1 rfl) ?_
        refine lv_iconst (v := (0 : Int32)) hx hb dX10_part_35 (by decide) ?_
        obtain ⟨q8, h7, h⟩ := Option.bind_eq_some_iff.mp h
        refine kcir [0, 1, 2, 3, 4, 5, 6, 7, 8, 9, 10] (va_runV (As := [.int i1, .int (0 : Int32)]) (rest := []) ⟨hx, hb, hml, hown, hts⟩ (kX10_has l D cI cC cS aD vD0 vD1 vD2 vD3 vD4 vD5 vD6 vD7 vD8 vD9 vD10 vD11 vD12 vD13 vD14 vD15 vD16 vD17 vD18 vD19 vD20 vD21 vD22 i1 (0 : Int32) H.size h7) (cwV 2 hts gX10_part_X10_has rfl rfl rfl (by decide +kernel) ⟨Nat.le_of_ble_eq_true rfl, Nat.le_of_ble_eq_true rfl⟩) (kpreV hK hN hP hD [0, 1, 2, 3, 4, 5, 6, 7, 8, 9, 10] rfl (by decide) 10 rfl rfl) rfl rfl hl.1 rfl (lv_room (Nat.le_of_ble_eq_true rfl)) dX10_part_36 ⟨Nat.le_refl _, Nat.le_refl _⟩) hP hD hS hA rfl (fun H locs hP hS => ?_)
        refine lv_iload_n hx hb dX10_part_39 rfl (lv_at hl 2 rfl) ?_
        refine lv_isub hx hb dX10_part_40 ?_
        refine lv_istore (lv' := [(4, .int (q8 - i2)), (0, .ref aD.1), (1, .int i1), (2, .int i2), (3, .int i3)]) hx hb dX10_part_41 hl (by decide) rfl (fun ls hl => ?_)
        refine lv_aload_n hx hb dX10_part_43 rfl (lv_at hl 1 rfl) ?_
        refine lv_iload_n hx hb dX10_part_44 rfl (lv_at hl 2 rfl) ?_
        refine lv_iconst (v := (1 : Int32)) hx hb dX10_part_45 (by decide) ?_
        obtain ⟨q10, h9, h⟩ := Option.bind_eq_some_iff.mp h
        refine kcir [0, 1, 2, 3, 4, 5, 6, 7, 8, 9, 10] (va_runV (As := [.int i1, .int (1 : Int32)]) (rest := []) ⟨hx, hb, hml, hown, hts⟩ (kX10_has l D cI cC cS aD vD0 vD1 vD2 vD3 vD4 vD5 vD6 vD7 vD8 vD9 vD10 vD11 vD12 vD13 vD14 vD15 vD16 vD17 vD18 vD19 vD20 vD21 vD22 i1 (1 : Int32) H.size h9) (cwV 2 hts gX10_part_X10_has rfl rfl rfl (by decide +kernel) ⟨Nat.le_of_ble_eq_true rfl, Nat.le_of_ble_eq_true rfl⟩) (kpreV hK hN hP hD [0, 1, 2, 3, 4, 5, 6, 7, 8, 9, 10] rfl (by decide) 10 rfl rfl) rfl rfl hl.1 rfl (lv_room (Nat.le_of_ble_eq_true rfl)) dX10_part_46 ⟨Nat.le_refl _, Nat.le_refl _⟩) hP hD hS hA rfl (fun H locs hP hS => ?_)
        refine lv_iload_n hx hb dX10_part_49 rfl (lv_at hl 4 rfl) ?_
        refine lv_isub hx hb dX10_part_50 ?_
        refine lv_istore (lv' := [(5, .int (q10 - i3)), (4, .int (q8 - i2)), (0, .ref aD.1), (1, .int i1), (2, .int i2), (3, .int i3)]) hx hb dX10_part_51 hl (by decide) rfl (fun ls hl => ?_)
        refine lv_iload hx hb dX10_part_53 (lv_at hl 1 rfl) ?_
        refine lv_if_lt (tgt := 77) hx hb dX10_part_55 (by decide) (fun g => ?_) (fun g => ?_)
        · rw [if_pos g] at h
          refine lv_bipush (v := (-4 : Int32)) hx hb dX10_part_77 (by decide) ?_
          obtain rfl := Option.some.inj h
          exact W.iret (v := (-4 : Int32)) hx hb hr (fun t ht hW => ⟨⟨_, (), rfl, rfl, by rw [ht]; exact hP, hD⟩, hS.F ht⟩) hS.2.2 dX10_part_79
        · rw [if_neg g] at h
          refine lv_iload hx hb dX10_part_58 (lv_at hl 0 rfl) ?_
          refine lv_if_lt (tgt := 77) hx hb dX10_part_60 (by decide) (fun g => ?_) (fun g => ?_)
          · rw [if_pos g] at h
            refine lv_bipush (v := (-4 : Int32)) hx hb dX10_part_77 (by decide) ?_
            obtain rfl := Option.some.inj h
            exact W.iret (v := (-4 : Int32)) hx hb hr (fun t ht hW => ⟨⟨_, (), rfl, rfl, by rw [ht]; exact hP, hD⟩, hS.F ht⟩) hS.2.2 dX10_part_79
          · rw [if_neg g] at h
            refine lv_iload_n hx hb dX10_part_63 rfl (lv_at hl 4 rfl) ?_
            refine lv_iload_n hx hb dX10_part_64 rfl (lv_at hl 5 rfl) ?_
            refine lv_iadd hx hb dX10_part_65 ?_
            refine lv_if_eq (tgt := 77) hx hb dX10_part_66 (by decide) (fun g => ?_) (fun g => ?_)
            · rw [if_pos g] at h
              refine lv_bipush (v := (-4 : Int32)) hx hb dX10_part_77 (by decide) ?_
              obtain rfl := Option.some.inj h
              exact W.iret (v := (-4 : Int32)) hx hb hr (fun t ht hW => ⟨⟨_, (), rfl, rfl, by rw [ht]; exact hP, hD⟩, hS.F ht⟩) hS.2.2 dX10_part_79
            · rw [if_neg g] at h
              refine lv_iload hx hb dX10_part_69 (lv_at hl 1 rfl) ?_
              refine lv_iload hx hb dX10_part_71 (lv_at hl 0 rfl) ?_
              refine lv_iadd hx hb dX10_part_73 ?_
              refine lv_if_ne (tgt := 80) hx hb dX10_part_74 (by decide) (fun g => ?_) (fun g => ?_)
              · rw [if_neg g] at h
                refine lv_aload_n hx hb dX10_part_80 rfl (lv_at hl 2 rfl) ?_
                obtain ⟨q12, h11, h⟩ := Option.bind_eq_some_iff.mp h
                refine kcvw (ws' := (wMD cC cI aD vD0 q12.1 q12.2 vD3 vD4 vD5 vD6 vD7 vD8 vD9 vD10 vD11 vD12 vD13 vD14 vD15 vD16 vD17 vD18 vD19 vD20 vD21 vD22)) [0, 1, 2, 3, 4, 5, 6, 7, 8, 9, 10] (va_runV (As := []) (rest := []) ⟨hx, hb, hml, hown, hts⟩ (kX10_record l D cI cC cS aD vD0 vD1 vD2 vD3 vD4 vD5 vD6 vD7 vD8 vD9 vD10 vD11 vD12 vD13 vD14 vD15 vD16 vD17 vD18 vD19 vD20 vD21 vD22 H.size h11) (cwV 0 hts gX10_part_X10_record rfl rfl rfl (by decide +kernel) ⟨Nat.le_of_ble_eq_true rfl, Nat.le_of_ble_eq_true rfl⟩) (kpreV hK hN hP hD [0, 1, 2, 3, 4, 5, 6, 7, 8, 9, 10] rfl (by decide) 10 rfl rfl) rfl rfl hl.1 rfl (lv_room (Nat.le_of_ble_eq_true rfl)) dX10_part_81 ⟨Nat.le_refl _, Nat.le_refl _⟩) hP hD hS hA rfl (by decide) rfl [1, 2, 3, 4, 5, 6, 7, 8, 9, 10, 11] (by decide +kernel) rfl (fun H locs hP hD hS => ?_)
                refine lv_aload_n hx hb dX10_part_84 rfl (lv_at hl 2 rfl) ?_
                obtain ⟨q14, h13, h⟩ := Option.bind_eq_some_iff.mp h
                refine kcir [0, 1, 2, 3, 4, 5, 6, 7, 8, 9, 10] (va_runV (As := []) (rest := []) ⟨hx, hb, hml, hown, hts⟩ (kX10_groups l D cI cC cS aD vD0 q12.1 q12.2 vD3 vD4 vD5 vD6 vD7 vD8 vD9 vD10 vD11 vD12 vD13 vD14 vD15 vD16 vD17 vD18 vD19 vD20 vD21 vD22 H.size h13) (cwV 0 hts gX10_part_X10_groups rfl rfl rfl (by decide +kernel) ⟨Nat.le_of_ble_eq_true rfl, Nat.le_of_ble_eq_true rfl⟩) (kpreV hK hN hP hD [0, 1, 2, 3, 4, 5, 6, 7, 8, 9, 10] rfl (by decide) 10 rfl rfl) rfl rfl hl.1 rfl (lv_room (Nat.le_of_ble_eq_true rfl)) dX10_part_85 ⟨Nat.le_refl _, Nat.le_refl _⟩) hP hD hS hA rfl (fun H locs hP hS => ?_)
                refine lv_istore (lv' := [(6, .int q14), (5, .int (q10 - i3)), (4, .int (q8 - i2)), (0, .ref aD.1), (1, .int i1), (2, .int i2), (3, .int i3)]) hx hb dX10_part_88 hl (by decide) rfl (fun ls hl => ?_)
                exact L90 4000 vD0 q12.1 q12.2 i1 i2 i3 (q8 - i2) (q10 - i3) q14 _ _ _ h hP hD hS (lv_sub hl [3, 4, 5, 6, 2, 1, 0] rfl)
              · rw [if_pos g] at h
                refine lv_bipush (v := (-4 : Int32)) hx hb dX10_part_77 (by decide) ?_
                obtain rfl := Option.some.inj h
                exact W.iret (v := (-4 : Int32)) hx hb hr (fun t ht hW => ⟨⟨_, (), rfl, rfl, by rw [ht]; exact hP, hD⟩, hS.F ht⟩) hS.2.2 dX10_part_79
      · rw [if_pos g] at h
        refine lv_bipush (v := (-2 : Int32)) hx hb dX10_part_30 (by decide) ?_
        obtain rfl := Option.some.inj h
        exact W.iret (v := (-2 : Int32)) hx hb hr (fun t ht hW => ⟨⟨_, (), rfl, rfl, by rw [ht]; exact hP, hD⟩, hS.F ht⟩) hS.2.2 dX10_part_32
  · rw [if_neg g] at h
    refine lv_iconst (v := (-1 : Int32)) hx hb dX10_part_8 (by decide) ?_
    obtain rfl := Option.some.inj h
    exact W.iret (v := (-1 : Int32)) hx hb hr (fun t ht hW => ⟨⟨_, (), rfl, rfl, by rw [ht]; exact hP, hD⟩, hS.F ht⟩) hS.2.2 dX10_part_9
set_option maxHeartbeats 8000000 in
set_option maxRecDepth 100000 in
theorem kX10_pairAll (l : Launch) (D : va_G) (cI cC cS : ClassId) (aD : Nat × Nat × Nat × Nat × Nat × Nat × Nat × Nat × Nat × Nat × Nat) (vD0 : (Nat → Int32)) (vD1 : (Nat → Int32)) (vD2 : Int32) (vD3 : Int32) (vD4 : (Nat → Int32)) (vD5 : Int32) (vD6 : Int32) (vD7 : Int32) (vD8 : Int32) (vD9 : Int32) (vD10 : Int32) (vD11 : (Nat → Int32)) (vD12 : (Nat → Int32)) (vD13 : Int32) (vD14 : Int32) (vD15 : (Nat → Int32)) (vD16 : Int32) (vD17 : Int32) (vD18 : Int32) (vD19 : (Nat → Int32)) (vD20 : (Nat → Int32)) (vD21 : (Nat → Int32)) (vD22 : (Nat → Int32)) (sz : Nat) {q : Int32 × (Nat → Int32) × (Nat → Int32) × Int32} (h : pX10_pairAll vD0 vD1 vD2 = some q) : kMi l yX10_pairAll wsX10_pairAll ({ frames := 2, cells := 0, slots := 0, locals := 42 } : Room) D (kTy cI cC cS) [.ref aD.1] (wMD cC cI aD vD0 vD1 vD2 vD3 vD4 vD5 vD6 vD7 vD8 vD9 vD10 vD11 vD12 vD13 vD14 vD15 vD16 vD17 vD18 vD19 vD20 vD21 vD22) sz q.1 (wMD cC cI aD q.2.1 q.2.2.1 q.2.2.2 vD3 vD4 vD5 vD6 vD7 vD8 vD9 vD10 vD11 vD12 vD13 vD14 vD15 vD16 vD17 vD18 vD19 vD20 vD21 vD22) := by
  refine Met.ofW (cc := cX10_pairAll) (maxL := 3) (ret := (some .int)) (by decide) rfl ?_
  intro p e s m args below meth c s₁ B hml hv
  obtain ⟨rfl, hsz, hP, hK, hD0, hN⟩ := hv
  have hx := B.exec
  have hb := B.bytes
  have hr := B.returns
  have hts := atoms_spec (ws := wsX10_pairAll) B.pre
  have hown : s.vm.findClass RX10 = some m.cls := findClass_of_methodNamed B.named
  have hlocks := B.notSynchronized
  subst hsz
  have hD := hD0.self (sz := s.heap.size)
  generalize hAe : va_A (wMD cC cI aD vD0 vD1 vD2 vD3 vD4 vD5 vD6 vD7 vD8 vD9 vD10 vD11 vD12 vD13 vD14 vD15 vD16 vD17 vD18 vD19 vD20 vD21 vD22) s.heap.size = A at hD ⊢
  have hA : ∀ q : Nat, s.heap.size ≤ q → A q := fun q h => by rw [← hAe]; exact Or.inr h
  have hS : va_S A s.heap s.heap [] := va_S.rf
  have huX10 : ∀ w ∈ u_ws RX10 TX10 23, w ∈ wsX10_pairAll := by decide +kernel
  have hl := lv_entry ([.ref aD.1]) (n := 3) (Nat.le_of_ble_eq_true rfl)
  rw [lg_entry_eq]
  generalize (lg_sl ([.ref aD.1]) ++ List.replicate (3 - (lg_sl ([.ref aD.1])).length) Slot.unset).toArray = ls at hl ⊢
  have hl : lv_has ls 3 [(0, .ref aD.1)] := hl
  have L61 : ∀ (nL61 : Nat) (c0_0 : (Nat → Int32)) (c0_1 : (Nat → Int32)) (c0_2 : Int32) (y2 : Int32) (H : Heap) (locs : List Loc) (ls : Array Slot), pX10_pairAll_L61  nL61 c0_0 c0_1 c0_2 y2 = some q → va_P D vwCl (wMD cC cI aD c0_0 c0_1 c0_2 vD3 vD4 vD5 vD6 vD7 vD8 vD9 vD10 vD11 vD12 vD13 vD14 vD15 vD16 vD17 vD18 vD19 vD20 vD21 vD22) H → va_D A (wMD cC cI aD c0_0 c0_1 c0_2 vD3 vD4 vD5 vD6 vD7 vD8 vD9 vD10 vD11 vD12 vD13 vD14 vD15 vD16 vD17 vD18 vD19 vD20 vD21 vD22) → va_S A s.heap H locs → lv_has ls 3 [(0, .ref aD.1), (2, .int y2)] → W p l e ({ frames := 2, cells := 0, slots := 0, locals := 42 } : Room) s m ([.ref aD.1] : List Value).toArray below meth c H locs 0 0 (MQ below (va_Qi (fun (r : Int32) (_ : Unit) => r = q.1) (fun _ => kPost D (wMD cC cI aD q.2.1 q.2.2.1 q.2.2.2 vD3 vD4 vD5 vD6 vD7 vD8 vD9 vD10 vD11 vD12 vD13 vD14 vD15 vD16 vD17 vD18 vD19 vD20 vD21 vD22) A) A) ([.ref aD.1] : List Value).toArray s 0 0 A) (F0 m 61 ls []) := by
    clear h hP hD hS hl
    intro nL61
    induction nL61 with
    | zero => intro c0_0 c0_1 c0_2 y2 H locs ls h; have h : (none : Option (Int32 × (Nat → Int32) × (Nat → Int32) × Int32)) = some q := h; cases h
    | succ nL61 ihL61 =>
      have j108 : ∀ (c0_0 : (Nat → Int32)) (c0_1 : (Nat → Int32)) (c0_2 : Int32) (y2 : Int32) (t1 : Int32) (t2 : Int32) (H : Heap) (locs : List Loc) (ls : Array Slot), pX10_pairAll_j108 (pX10_pairAll_L61  nL61) c0_0 c0_1 c0_2 y2 t1 t2 = some q → va_P D vwCl (wMD cC cI aD c0_0 c0_1 c0_2 vD3 vD4 vD5 vD6 vD7 vD8 vD9 vD10 vD11 vD12 vD13 vD14 vD15 vD16 vD17 vD18 vD19 vD20 vD21 vD22) H → va_D A (wMD cC cI aD c0_0 c0_1 c0_2 vD3 vD4 vD5 vD6 vD7 vD8 vD9 vD10 vD11 vD12 vD13 vD14 vD15 vD16 vD17 vD18 vD19 vD20 vD21 vD22) → va_S A s.heap H locs → lv_has ls 3 [(0, .ref aD.1), (2, .int y2)] → W p l e ({ frames := 2, cells := 0, slots := 0, locals := 42 } : Room) s m ([.ref aD.1] : List Value).toArray below meth c H locs 0 0 (MQ below (va_Qi (fun (r : Int32) (_ : Unit) => r = q.1) (fun _ => kPost D (wMD cC cI aD q.2.1 q.2.2.1 q.2.2.2 vD3 vD4 vD5 vD6 vD7 vD8 vD9 vD10 vD11 vD12 vD13 vD14 vD15 vD16 vD17 vD18 vD19 vD20 vD21 vD22) A) A) ([.ref aD.1] : List Value).toArray s 0 0 A) (F0 m 108 ls [.int t2, .int t1, .ref aD.1]) := by
        skip
        intro c0_0 c0_1 c0_2 y2 t1 t2 H locs ls h hP hD hS hl
        unfold pX10_pairAll_j108 at h
        obtain ⟨q16, h15, h⟩ := Option.bind_eq_some_iff.mp h
        refine kcvw (ws' := (wMD cC cI aD q16 c0_1 c0_2 vD3 vD4 vD5 vD6 vD7 vD8 vD9 vD10 vD11 vD12 vD13 vD14 vD15 vD16 vD17 vD18 vD19 vD20 vD21 vD22)) [0, 1, 2, 3, 4, 5, 6, 7, 8, 9, 10] (va_runV (As := [.int t1, .int t2]) (rest := []) ⟨hx, hb, hml, hown, hts⟩ (kX10_addGroup l D cI cC cS aD c0_0 c0_1 c0_2 vD3 vD4 vD5 vD6 vD7 vD8 vD9 vD10 vD11 vD12 vD13 vD14 vD15 vD16 vD17 vD18 vD19 vD20 vD21 vD22 t1 t2 H.size h15) (cwV 2 hts gX10_pairAll_X10_addGroup rfl rfl rfl (by decide +kernel) ⟨Nat.le_of_ble_eq_true rfl, Nat.le_of_ble_eq_true rfl⟩) (kpreV hK hN hP hD [0, 1, 2, 3, 4, 5, 6, 7, 8, 9, 10] rfl (by decide) 10 rfl rfl) rfl rfl hl.1 rfl (lv_room (Nat.le_of_ble_eq_true rfl)) dX10_pairAll_108 ⟨Nat.le_refl _, Nat.le_refl _⟩) hP hD hS hA rfl (by decide) rfl [1, 2, 3, 4, 5, 6, 7, 8, 9, 10, 11] (by decide +kernel) rfl (fun H locs hP hD hS => ?_)
        refine lv_iinc (v := (y2 + (1 : Int32))) (lv' := [(2, .int (y2 + (1 : Int32))), (0, .ref aD.1)]) hx hb dX10_pairAll_111 hl (k := 1) rfl rfl (by decide) rfl (fun ls hl => ?_)
        refine lv_goto (tgt := 61) hx hb dX10_pairAll_114 (by decide) ?_
        exact ihL61 q16 c0_1 c0_2 (y2 + (1 : Int32)) _ _ _ h hP hD hS (lv_sub hl [1, 0] rfl)
      have j94 : ∀ (c0_0 : (Nat → Int32)) (c0_1 : (Nat → Int32)) (c0_2 : Int32) (y2 : Int32) (t1 : Int32) (H : Heap) (locs : List Loc) (ls : Array Slot), pX10_pairAll_j94 (pX10_pairAll_L61  nL61) c0_0 c0_1 c0_2 y2 t1 = some q → va_P D vwCl (wMD cC cI aD c0_0 c0_1 c0_2 vD3 vD4 vD5 vD6 vD7 vD8 vD9 vD10 vD11 vD12 vD13 vD14 vD15 vD16 vD17 vD18 vD19 vD20 vD21 vD22) H → va_D A (wMD cC cI aD c0_0 c0_1 c0_2 vD3 vD4 vD5 vD6 vD7 vD8 vD9 vD10 vD11 vD12 vD13 vD14 vD15 vD16 vD17 vD18 vD19 vD20 vD21 vD22) → va_S A s.heap H locs → lv_has ls 3 [(0, .ref aD.1), (2, .int y2)] → W p l e ({ frames := 2, cells := 0, slots := 0, locals := 42 } : Room) s m ([.ref aD.1] : List Value).toArray below meth c H locs 0 0 (MQ below (va_Qi (fun (r : Int32) (_ : Unit) => r = q.1) (fun _ => kPost D (wMD cC cI aD q.2.1 q.2.2.1 q.2.2.2 vD3 vD4 vD5 vD6 vD7 vD8 vD9 vD10 vD11 vD12 vD13 vD14 vD15 vD16 vD17 vD18 vD19 vD20 vD21 vD22) A) A) ([.ref aD.1] : List Value).toArray s 0 0 A) (F0 m 94 ls [.int t1, .ref aD.1]) := by
        skip
        intro c0_0 c0_1 c0_2 y2 t1 H locs ls h hP hD hS hl
        unfold pX10_pairAll_j94 at h
        refine lv_iload_n hx hb dX10_pairAll_94 rfl (lv_at hl 1 rfl) ?_
        refine lv_aload_n hx hb dX10_pairAll_95 rfl (lv_at hl 0 rfl) ?_
        refine lv_iconst (v := (1 : Int32)) hx hb dX10_pairAll_96 (by decide) ?_
        obtain ⟨q14, h13, h⟩ := Option.bind_eq_some_iff.mp h
        refine kcir [0, 1, 2, 3, 4, 5, 6, 7, 8, 9, 10] (va_runV (As := [.int (1 : Int32)]) (rest := [.int y2, .int t1, .ref aD.1]) ⟨hx, hb, hml, hown, hts⟩ (kX10_size l D cI cC cS aD c0_0 c0_1 c0_2 vD3 vD4 vD5 vD6 vD7 vD8 vD9 vD10 vD11 vD12 vD13 vD14 vD15 vD16 vD17 vD18 vD19 vD20 vD21 vD22 (1 : Int32) H.size h13) (cwV 1 hts gX10_pairAll_X10_size rfl rfl rfl (by decide +kernel) ⟨Nat.le_of_ble_eq_true rfl, Nat.le_of_ble_eq_true rfl⟩) (kpreV hK hN hP hD [0, 1, 2, 3, 4, 5, 6, 7, 8, 9, 10] rfl (by decide) 10 rfl rfl) rfl rfl hl.1 rfl (lv_room (Nat.le_of_ble_eq_true rfl)) dX10_pairAll_97 ⟨Nat.le_refl _, Nat.le_refl _⟩) hP hD hS hA rfl (fun H locs hP hS => ?_)
        refine lv_icmp_ge (tgt := 107) hx hb dX10_pairAll_100 (by decide) (fun g => ?_) (fun g => ?_)
        · rw [if_pos g] at h
          refine lv_iconst (v := (0 : Int32)) hx hb dX10_pairAll_107 (by decide) ?_
          exact j108 c0_0 c0_1 c0_2 y2 t1 (0 : Int32) _ _ _ h hP hD hS (lv_sub hl [0, 1] rfl)
        · rw [if_neg g] at h
          refine lv_iconst (v := (1 : Int32)) hx hb dX10_pairAll_103 (by decide) ?_
          refine lv_goto (tgt := 108) hx hb dX10_pairAll_104 (by decide) ?_
          exact j108 c0_0 c0_1 c0_2 y2 t1 (1 : Int32) _ _ _ h hP hD hS (lv_sub hl [0, 1] rfl)
      have j79 : ∀ (c0_0 : (Nat → Int32)) (c0_1 : (Nat → Int32)) (c0_2 : Int32) (y2 : Int32) (H : Heap) (locs : List Loc) (ls : Array Slot), pX10_pairAll_j79 (pX10_pairAll_L61  nL61) c0_0 c0_1 c0_2 y2 = some q → va_P D vwCl (wMD cC cI aD c0_0 c0_1 c0_2 vD3 vD4 vD5 vD6 vD7 vD8 vD9 vD10 vD11 vD12 vD13 vD14 vD15 vD16 vD17 vD18 vD19 vD20 vD21 vD22) H → va_D A (wMD cC cI aD c0_0 c0_1 c0_2 vD3 vD4 vD5 vD6 vD7 vD8 vD9 vD10 vD11 vD12 vD13 vD14 vD15 vD16 vD17 vD18 vD19 vD20 vD21 vD22) → va_S A s.heap H locs → lv_has ls 3 [(0, .ref aD.1), (2, .int y2)] → W p l e ({ frames := 2, cells := 0, slots := 0, locals := 42 } : Room) s m ([.ref aD.1] : List Value).toArray below meth c H locs 0 0 (MQ below (va_Qi (fun (r : Int32) (_ : Unit) => r = q.1) (fun _ => kPost D (wMD cC cI aD q.2.1 q.2.2.1 q.2.2.2 vD3 vD4 vD5 vD6 vD7 vD8 vD9 vD10 vD11 vD12 vD13 vD14 vD15 vD16 vD17 vD18 vD19 vD20 vD21 vD22) A) A) ([.ref aD.1] : List Value).toArray s 0 0 A) (F0 m 79 ls []) := by
        skip
        intro c0_0 c0_1 c0_2 y2 H locs ls h hP hD hS hl
        unfold pX10_pairAll_j79 at h
        refine lv_aload_n hx hb dX10_pairAll_79 rfl (lv_at hl 0 rfl) ?_
        refine lv_iload_n hx hb dX10_pairAll_80 rfl (lv_at hl 1 rfl) ?_
        refine lv_aload_n hx hb dX10_pairAll_81 rfl (lv_at hl 0 rfl) ?_
        refine lv_iconst (v := (0 : Int32)) hx hb dX10_pairAll_82 (by decide) ?_
        obtain ⟨q12, h11, h⟩ := Option.bind_eq_some_iff.mp h
        refine kcir [0, 1, 2, 3, 4, 5, 6, 7, 8, 9, 10] (va_runV (As := [.int (0 : Int32)]) (rest := [.int y2, .ref aD.1]) ⟨hx, hb, hml, hown, hts⟩ (kX10_size l D cI cC cS aD c0_0 c0_1 c0_2 vD3 vD4 vD5 vD6 vD7 vD8 vD9 vD10 vD11 vD12 vD13 vD14 vD15 vD16 vD17 vD18 vD19 vD20 vD21 vD22 (0 : Int32) H.size h11) (cwV 1 hts gX10_pairAll_X10_size rfl rfl rfl (by decide +kernel) ⟨Nat.le_of_ble_eq_true rfl, Nat.le_of_ble_eq_true rfl⟩) (kpreV hK hN hP hD [0, 1, 2, 3, 4, 5, 6, 7, 8, 9, 10] rfl (by decide) 10 rfl rfl) rfl rfl hl.1 rfl (lv_room (Nat.le_of_ble_eq_true rfl)) dX10_pairAll_83 ⟨Nat.le_refl _, Nat.le_refl _⟩) hP hD hS hA rfl (fun H locs hP hS => ?_)
        refine lv_icmp_ge (tgt := 93) hx hb dX10_pairAll_86 (by decide) (fun g => ?_) (fun g => ?_)
        · rw [if_pos g] at h
          refine lv_iconst (v := (0 : Int32)) hx hb dX10_pairAll_93 (by decide) ?_
          exact j94 c0_0 c0_1 c0_2 y2 (0 : Int32) _ _ _ h hP hD hS (lv_sub hl [0, 1] rfl)
        · rw [if_neg g] at h
          refine lv_iconst (v := (1 : Int32)) hx hb dX10_pairAll_89 (by decide) ?_
          refine lv_goto (tgt := 94) hx hb dX10_pairAll_90 (by decide) ?_
          exact j94 c0_0 c0_1 c0_2 y2 (1 : Int32) _ _ _ h hP hD hS (lv_sub hl [0, 1] rfl)
      intro c0_0 c0_1 c0_2 y2 H locs ls h hP hD hS hl
      have h : pX10_pairAll_bL61 (pX10_pairAll_L61  nL61) c0_0 c0_1 c0_2 y2 = some q := h
      unfold pX10_pairAll_bL61 at h
      refine lv_iload_n hx hb dX10_pairAll_61 rfl (lv_at hl 1 rfl) ?_
      refine lv_aload_n hx hb dX10_pairAll_62 rfl (lv_at hl 0 rfl) ?_
      refine lv_iconst (v := (0 : Int32)) hx hb dX10_pairAll_63 (by decide) ?_
      obtain ⟨q10, h9, h⟩ := Option.bind_eq_some_iff.mp h
      refine kcir [0, 1, 2, 3, 4, 5, 6, 7, 8, 9, 10] (va_runV (As := [.int (0 : Int32)]) (rest := [.int y2]) ⟨hx, hb, hml, hown, hts⟩ (kX10_size l D cI cC cS aD c0_0 c0_1 c0_2 vD3 vD4 vD5 vD6 vD7 vD8 vD9 vD10 vD11 vD12 vD13 vD14 vD15 vD16 vD17 vD18 vD19 vD20 vD21 vD22 (0 : Int32) H.size h9) (cwV 1 hts gX10_pairAll_X10_size rfl rfl rfl (by decide +kernel) ⟨Nat.le_of_ble_eq_true rfl, Nat.le_of_ble_eq_true rfl⟩) (kpreV hK hN hP hD [0, 1, 2, 3, 4, 5, 6, 7, 8, 9, 10] rfl (by decide) 10 rfl rfl) rfl rfl hl.1 rfl (lv_room (Nat.le_of_ble_eq_true rfl)) dX10_pairAll_64 ⟨Nat.le_refl _, Nat.le_refl _⟩) hP hD hS hA rfl (fun H locs hP hS => ?_)
      refine lv_icmp_lt (tgt := 79) hx hb dX10_pairAll_67 (by decide) (fun g => ?_) (fun g => ?_)
      · rw [if_pos g] at h
        exact j79 c0_0 c0_1 c0_2 y2 _ _ _ h hP hD hS (lv_sub hl [0, 1] rfl)
      · rw [if_neg g] at h
        refine lv_iload_n hx hb dX10_pairAll_70 rfl (lv_at hl 1 rfl) ?_
        refine lv_aload_n hx hb dX10_pairAll_71 rfl (lv_at hl 0 rfl) ?_
        refine lv_iconst (v := (1 : Int32)) hx hb dX10_pairAll_72 (by decide) ?_
        obtain ⟨q18, h17, h⟩ := Option.bind_eq_some_iff.mp h
        refine kcir [0, 1, 2, 3, 4, 5, 6, 7, 8, 9, 10] (va_runV (As := [.int (1 : Int32)]) (rest := [.int y2]) ⟨hx, hb, hml, hown, hts⟩ (kX10_size l D cI cC cS aD c0_0 c0_1 c0_2 vD3 vD4 vD5 vD6 vD7 vD8 vD9 vD10 vD11 vD12 vD13 vD14 vD15 vD16 vD17 vD18 vD19 vD20 vD21 vD22 (1 : Int32) H.size h17) (cwV 1 hts gX10_pairAll_X10_size rfl rfl rfl (by decide +kernel) ⟨Nat.le_of_ble_eq_true rfl, Nat.le_of_ble_eq_true rfl⟩) (kpreV hK hN hP hD [0, 1, 2, 3, 4, 5, 6, 7, 8, 9, 10] rfl (by decide) 10 rfl rfl) rfl rfl hl.1 rfl (lv_room (Nat.le_of_ble_eq_true rfl)) dX10_pairAll_73 ⟨Nat.le_refl _, Nat.le_refl _⟩) hP hD hS hA rfl (fun H locs hP hS => ?_)
        refine lv_icmp_ge (tgt := 117) hx hb dX10_pairAll_76 (by decide) (fun g => ?_) (fun g => ?_)
        · rw [if_pos g] at h
          refine lv_aload_n hx hb dX10_pairAll_117 rfl (lv_at hl 0 rfl) ?_
          obtain ⟨q20, h19, h⟩ := Option.bind_eq_some_iff.mp h
          refine kcir [0, 1, 2, 3, 4, 5, 6, 7, 8, 9, 10] (va_runV (As := []) (rest := []) ⟨hx, hb, hml, hown, hts⟩ (kX10_groups l D cI cC cS aD c0_0 c0_1 c0_2 vD3 vD4 vD5 vD6 vD7 vD8 vD9 vD10 vD11 vD12 vD13 vD14 vD15 vD16 vD17 vD18 vD19 vD20 vD21 vD22 H.size h19) (cwV 0 hts gX10_pairAll_X10_groups rfl rfl rfl (by decide +kernel) ⟨Nat.le_of_ble_eq_true rfl, Nat.le_of_ble_eq_true rfl⟩) (kpreV hK hN hP hD [0, 1, 2, 3, 4, 5, 6, 7, 8, 9, 10] rfl (by decide) 10 rfl rfl) rfl rfl hl.1 rfl (lv_room (Nat.le_of_ble_eq_true rfl)) dX10_pairAll_118 ⟨Nat.le_refl _, Nat.le_refl _⟩) hP hD hS hA rfl (fun H locs hP hS => ?_)
          obtain rfl := Option.some.inj h
          exact W.iret (v := q20) hx hb hr (fun t ht hW => ⟨⟨_, (), rfl, rfl, by rw [ht]; exact hP, hD⟩, hS.F ht⟩) hS.2.2 dX10_pairAll_121
        · rw [if_neg g] at h
          exact j79 c0_0 c0_1 c0_2 y2 _ _ _ h hP hD hS (lv_sub hl [0, 1] rfl)
  have L42 : ∀ (nL42 : Nat) (c0_0 : (Nat → Int32)) (c0_1 : (Nat → Int32)) (c0_2 : Int32) (y1 : Int32) (y2 : Int32) (H : Heap) (locs : List Loc) (ls : Array Slot), pX10_pairAll_L42  nL42 c0_0 c0_1 c0_2 y1 y2 = some q → va_P D vwCl (wMD cC cI aD c0_0 c0_1 c0_2 vD3 vD4 vD5 vD6 vD7 vD8 vD9 vD10 vD11 vD12 vD13 vD14 vD15 vD16 vD17 vD18 vD19 vD20 vD21 vD22) H → va_D A (wMD cC cI aD c0_0 c0_1 c0_2 vD3 vD4 vD5 vD6 vD7 vD8 vD9 vD10 vD11 vD12 vD13 vD14 vD15 vD16 vD17 vD18 vD19 vD20 vD21 vD22) → va_S A s.heap H locs → lv_has ls 3 [(0, .ref aD.1), (1, .int y1), (2, .int y2)] → W p l e ({ frames := 2, cells := 0, slots := 0, locals := 42 } : Room) s m ([.ref aD.1] : List Value).toArray below meth c H locs 0 0 (MQ below (va_Qi (fun (r : Int32) (_ : Unit) => r = q.1) (fun _ => kPost D (wMD cC cI aD q.2.1 q.2.2.1 q.2.2.2 vD3 vD4 vD5 vD6 vD7 vD8 vD9 vD10 vD11 vD12 vD13 vD14 vD15 vD16 vD17 vD18 vD19 vD20 vD21 vD22) A) A) ([.ref aD.1] : List Value).toArray s 0 0 A) (F0 m 42 ls []) := by
    clear h hP hD hS hl
    intro nL42
    induction nL42 with
    | zero => intro c0_0 c0_1 c0_2 y1 y2 H locs ls h; have h : (none : Option (Int32 × (Nat → Int32) × (Nat → Int32) × Int32)) = some q := h; cases h
    | succ nL42 ihL42 =>
      intro c0_0 c0_1 c0_2 y1 y2 H locs ls h hP hD hS hl
      have h : pX10_pairAll_bL42 (pX10_pairAll_L42  nL42) c0_0 c0_1 c0_2 y1 y2 = some q := h
      unfold pX10_pairAll_bL42 at h
      refine lv_iload_n hx hb dX10_pairAll_42 rfl (lv_at hl 2 rfl) ?_
      refine lv_iload_n hx hb dX10_pairAll_43 rfl (lv_at hl 1 rfl) ?_
      refine lv_icmp_ge (tgt := 59) hx hb dX10_pairAll_44 (by decide) (fun g => ?_) (fun g => ?_)
      · rw [if_pos g] at h
        refine lv_iload_n hx hb dX10_pairAll_59 rfl (lv_at hl 1 rfl) ?_
        refine lv_istore_n (lv' := [(2, .int y1), (0, .ref aD.1), (1, .int y1)]) hx hb dX10_pairAll_60 rfl hl (by decide) rfl (fun ls hl => ?_)
        exact L61 4000 c0_0 c0_1 c0_2 y1 _ _ _ h hP hD hS (lv_sub hl [1, 0] rfl)
      · rw [if_neg g] at h
        refine lv_aload_n hx hb dX10_pairAll_47 rfl (lv_at hl 0 rfl) ?_
        refine lv_iconst (v := (1 : Int32)) hx hb dX10_pairAll_48 (by decide) ?_
        refine lv_iconst (v := (1 : Int32)) hx hb dX10_pairAll_49 (by decide) ?_
        obtain ⟨q22, h21, h⟩ := Option.bind_eq_some_iff.mp h
        refine kcvw (ws' := (wMD cC cI aD q22 c0_1 c0_2 vD3 vD4 vD5 vD6 vD7 vD8 vD9 vD10 vD11 vD12 vD13 vD14 vD15 vD16 vD17 vD18 vD19 vD20 vD21 vD22)) [0, 1, 2, 3, 4, 5, 6, 7, 8, 9, 10] (va_runV (As := [.int (1 : Int32), .int (1 : Int32)]) (rest := []) ⟨hx, hb, hml, hown, hts⟩ (kX10_addGroup l D cI cC cS aD c0_0 c0_1 c0_2 vD3 vD4 vD5 vD6 vD7 vD8 vD9 vD10 vD11 vD12 vD13 vD14 vD15 vD16 vD17 vD18 vD19 vD20 vD21 vD22 (1 : Int32) (1 : Int32) H.size h21) (cwV 2 hts gX10_pairAll_X10_addGroup rfl rfl rfl (by decide +kernel) ⟨Nat.le_of_ble_eq_true rfl, Nat.le_of_ble_eq_true rfl⟩) (kpreV hK hN hP hD [0, 1, 2, 3, 4, 5, 6, 7, 8, 9, 10] rfl (by decide) 10 rfl rfl) rfl rfl hl.1 rfl (lv_room (Nat.le_of_ble_eq_true rfl)) dX10_pairAll_50 ⟨Nat.le_refl _, Nat.le_refl _⟩) hP hD hS hA rfl (by decide) rfl [1, 2, 3, 4, 5, 6, 7, 8, 9, 10, 11] (by decide +kernel) rfl (fun H locs hP hD hS => ?_)
        refine lv_iinc (v := (y2 + (1 : Int32))) (lv' := [(2, .int (y2 + (1 : Int32))), (0, .ref aD.1), (1, .int y1)]) hx hb dX10_pairAll_53 hl (k := 2) rfl rfl (by decide) rfl (fun ls hl => ?_)
        refine lv_goto (tgt := 42) hx hb dX10_pairAll_56 (by decide) ?_
        exact ihL42 q22 c0_1 c0_2 y1 (y2 + (1 : Int32)) _ _ _ h hP hD hS (lv_sub hl [1, 2, 0] rfl)
  have j39 : ∀ (c0_0 : (Nat → Int32)) (c0_1 : (Nat → Int32)) (c0_2 : Int32) (t0 : Int32) (H : Heap) (locs : List Loc) (ls : Array Slot), pX10_pairAll_j39  c0_0 c0_1 c0_2 t0 = some q → va_P D vwCl (wMD cC cI aD c0_0 c0_1 c0_2 vD3 vD4 vD5 vD6 vD7 vD8 vD9 vD10 vD11 vD12 vD13 vD14 vD15 vD16 vD17 vD18 vD19 vD20 vD21 vD22) H → va_D A (wMD cC cI aD c0_0 c0_1 c0_2 vD3 vD4 vD5 vD6 vD7 vD8 vD9 vD10 vD11 vD12 vD13 vD14 vD15 vD16 vD17 vD18 vD19 vD20 vD21 vD22) → va_S A s.heap H locs → lv_has ls 3 [(0, .ref aD.1)] → W p l e ({ frames := 2, cells := 0, slots := 0, locals := 42 } : Room) s m ([.ref aD.1] : List Value).toArray below meth c H locs 0 0 (MQ below (va_Qi (fun (r : Int32) (_ : Unit) => r = q.1) (fun _ => kPost D (wMD cC cI aD q.2.1 q.2.2.1 q.2.2.2 vD3 vD4 vD5 vD6 vD7 vD8 vD9 vD10 vD11 vD12 vD13 vD14 vD15 vD16 vD17 vD18 vD19 vD20 vD21 vD22) A) A) ([.ref aD.1] : List Value).toArray s 0 0 A) (F0 m 39 ls [.int t0]) := by
    clear h hP hD hS hl
    intro c0_0 c0_1 c0_2 t0 H locs ls h hP hD hS hl
    unfold pX10_pairAll_j39 at h
    refine lv_istore_n (lv' := [(1, .int t0), (0, .ref aD.1)]) hx hb dX10_pairAll_39 rfl hl (by decide) rfl (fun ls hl => ?_)
    refine lv_iconst (v := (0 : Int32)) hx hb dX10_pairAll_40 (by decide) ?_
    refine lv_istore_n (lv' := [(2, .int (0 : Int32)), (1, .int t0), (0, .ref aD.1)]) hx hb dX10_pairAll_41 rfl hl (by decide) rfl (fun ls hl => ?_)
    exact L42 4000 c0_0 c0_1 c0_2 t0 (0 : Int32) _ _ _ h hP hD hS (lv_sub hl [2, 1, 0] rfl)
  unfold pX10_pairAll at h
  refine lv_aload_n hx hb dX10_pairAll_0 rfl (lv_at hl 0 rfl) ?_
  obtain ⟨q2, h1, h⟩ := Option.bind_eq_some_iff.mp h
  refine kcvw (ws' := (wMD cC cI aD vD0 q2.1 q2.2 vD3 vD4 vD5 vD6 vD7 vD8 vD9 vD10 vD11 vD12 vD13 vD14 vD15 vD16 vD17 vD18 vD19 vD20 vD21 vD22)) [0, 1, 2, 3, 4, 5, 6, 7, 8, 9, 10] (va_runV (As := []) (rest := []) ⟨hx, hb, hml, hown, hts⟩ (kX10_record l D cI cC cS aD vD0 vD1 vD2 vD3 vD4 vD5 vD6 vD7 vD8 vD9 vD10 vD11 vD12 vD13 vD14 vD15 vD16 vD17 vD18 vD19 vD20 vD21 vD22 s.heap.size h1) (cwV 0 hts gX10_pairAll_X10_record rfl rfl rfl (by decide +kernel) ⟨Nat.le_of_ble_eq_true rfl, Nat.le_of_ble_eq_true rfl⟩) (kpreV hK hN hP hD [0, 1, 2, 3, 4, 5, 6, 7, 8, 9, 10] rfl (by decide) 10 rfl rfl) rfl rfl hl.1 rfl (lv_room (Nat.le_of_ble_eq_true rfl)) dX10_pairAll_1 ⟨Nat.le_refl _, Nat.le_refl _⟩) hP hD hS hA rfl (by decide) rfl [1, 2, 3, 4, 5, 6, 7, 8, 9, 10, 11] (by decide +kernel) rfl (fun H locs hP hD hS => ?_)
  refine lv_aload_n hx hb dX10_pairAll_4 rfl (lv_at hl 0 rfl) ?_
  refine va_get (D := D) (ci := 10) (v := .ref aD.2.1) (C := RX10) (T := TX10) (N := 23) hx hb hts huX10 hown hK hP 0 rfl rfl 0 (by decide) (hts (.fieldLink RX10 7 "VerseColumnsModel" "row" "[I") (by decide +kernel)) (fun _ h9 => h9) rfl dX10_pairAll_5 ?_
  refine lv_sipush (v := (364 : Int32)) hx hb dX10_pairAll_8 (by decide) ?_
  refine lv_iconst (v := (0 : Int32)) hx hb dX10_pairAll_11 (by decide) ?_
  obtain ⟨g, h⟩ := kif h
  refine va_iast hx hb hK hP hD hS 1 0 rfl rfl (kin g) dX10_pairAll_12 (fun H locs hP hD hS => ?_)
  have hP : va_P D vwCl (wMD cC cI aD (upd vD0 (364 : Int32).toNatClampNeg (0 : Int32)) q2.1 q2.2 vD3 vD4 vD5 vD6 vD7 vD8 vD9 vD10 vD11 vD12 vD13 vD14 vD15 vD16 vD17 vD18 vD19 vD20 vD21 vD22) H := hP
  have hD : va_D A (wMD cC cI aD (upd vD0 (364 : Int32).toNatClampNeg (0 : Int32)) q2.1 q2.2 vD3 vD4 vD5 vD6 vD7 vD8 vD9 vD10 vD11 vD12 vD13 vD14 vD15 vD16 vD17 vD18 vD19 vD20 vD21 vD22) := hD
  refine lv_aload_n hx hb dX10_pairAll_13 rfl (lv_at hl 0 rfl) ?_
  refine lv_iconst (v := (0 : Int32)) hx hb dX10_pairAll_14 (by decide) ?_
  obtain ⟨q4, h3, h⟩ := Option.bind_eq_some_iff.mp h
  refine kcir [0, 1, 2, 3, 4, 5, 6, 7, 8, 9, 10] (va_runV (As := [.int (0 : Int32)]) (rest := []) ⟨hx, hb, hml, hown, hts⟩ (kX10_size l D cI cC cS aD (upd vD0 (364 : Int32).toNatClampNeg (0 : Int32)) q2.1 q2.2 vD3 vD4 vD5 vD6 vD7 vD8 vD9 vD10 vD11 vD12 vD13 vD14 vD15 vD16 vD17 vD18 vD19 vD20 vD21 vD22 (0 : Int32) H.size h3) (cwV 1 hts gX10_pairAll_X10_size rfl rfl rfl (by decide +kernel) ⟨Nat.le_of_ble_eq_true rfl, Nat.le_of_ble_eq_true rfl⟩) (kpreV hK hN hP hD [0, 1, 2, 3, 4, 5, 6, 7, 8, 9, 10] rfl (by decide) 10 rfl rfl) rfl rfl hl.1 rfl (lv_room (Nat.le_of_ble_eq_true rfl)) dX10_pairAll_15 ⟨Nat.le_refl _, Nat.le_refl _⟩) hP hD hS hA rfl (fun H locs hP hS => ?_)
  refine lv_aload_n hx hb dX10_pairAll_18 rfl (lv_at hl 0 rfl) ?_
  refine lv_iconst (v := (1 : Int32)) hx hb dX10_pairAll_19 (by decide) ?_
  obtain ⟨q6, h5, h⟩ := Option.bind_eq_some_iff.mp h
  refine kcir [0, 1, 2, 3, 4, 5, 6, 7, 8, 9, 10] (va_runV (As := [.int (1 : Int32)]) (rest := [.int q4]) ⟨hx, hb, hml, hown, hts⟩ (kX10_size l D cI cC cS aD (upd vD0 (364 : Int32).toNatClampNeg (0 : Int32)) q2.1 q2.2 vD3 vD4 vD5 vD6 vD7 vD8 vD9 vD10 vD11 vD12 vD13 vD14 vD15 vD16 vD17 vD18 vD19 vD20 vD21 vD22 (1 : Int32) H.size h5) (cwV 1 hts gX10_pairAll_X10_size rfl rfl rfl (by decide +kernel) ⟨Nat.le_of_ble_eq_true rfl, Nat.le_of_ble_eq_true rfl⟩) (kpreV hK hN hP hD [0, 1, 2, 3, 4, 5, 6, 7, 8, 9, 10] rfl (by decide) 10 rfl rfl) rfl rfl hl.1 rfl (lv_room (Nat.le_of_ble_eq_true rfl)) dX10_pairAll_20 ⟨Nat.le_refl _, Nat.le_refl _⟩) hP hD hS hA rfl (fun H locs hP hS => ?_)
  refine lv_icmp_ge (tgt := 34) hx hb dX10_pairAll_23 (by decide) (fun g => ?_) (fun g => ?_)
  · rw [if_pos g] at h
    refine lv_aload_n hx hb dX10_pairAll_34 rfl (lv_at hl 0 rfl) ?_
    refine lv_iconst (v := (1 : Int32)) hx hb dX10_pairAll_35 (by decide) ?_
    obtain ⟨q8, h7, h⟩ := Option.bind_eq_some_iff.mp h
    refine kcir [0, 1, 2, 3, 4, 5, 6, 7, 8, 9, 10] (va_runV (As := [.int (1 : Int32)]) (rest := []) ⟨hx, hb, hml, hown, hts⟩ (kX10_size l D cI cC cS aD (upd vD0 (364 : Int32).toNatClampNeg (0 : Int32)) q2.1 q2.2 vD3 vD4 vD5 vD6 vD7 vD8 vD9 vD10 vD11 vD12 vD13 vD14 vD15 vD16 vD17 vD18 vD19 vD20 vD21 vD22 (1 : Int32) H.size h7) (cwV 1 hts gX10_pairAll_X10_size rfl rfl rfl (by decide +kernel) ⟨Nat.le_of_ble_eq_true rfl, Nat.le_of_ble_eq_true rfl⟩) (kpreV hK hN hP hD [0, 1, 2, 3, 4, 5, 6, 7, 8, 9, 10] rfl (by decide) 10 rfl rfl) rfl rfl hl.1 rfl (lv_room (Nat.le_of_ble_eq_true rfl)) dX10_pairAll_36 ⟨Nat.le_refl _, Nat.le_refl _⟩) hP hD hS hA rfl (fun H locs hP hS => ?_)
    exact j39 (upd vD0 (364 : Int32).toNatClampNeg (0 : Int32)) q2.1 q2.2 q8 _ _ _ h hP hD hS (lv_sub hl [0] rfl)
  · rw [if_neg g] at h
    refine lv_aload_n hx hb dX10_pairAll_26 rfl (lv_at hl 0 rfl) ?_
    refine lv_iconst (v := (0 : Int32)) hx hb dX10_pairAll_27 (by decide) ?_
    obtain ⟨q24, h23, h⟩ := Option.bind_eq_some_iff.mp h
    refine kcir [0, 1, 2, 3, 4, 5, 6, 7, 8, 9, 10] (va_runV (As := [.int (0 : Int32)]) (rest := []) ⟨hx, hb, hml, hown, hts⟩ (kX10_size l D cI cC cS aD (upd vD0 (364 : Int32).toNatClampNeg (0 : Int32)) q2.1 q2.2 vD3 vD4 vD5 vD6 vD7 vD8 vD9 vD10 vD11 vD12 vD13 vD14 vD15 vD16 vD17 vD18 vD19 vD20 vD21 vD22 (0 : Int32) H.size h23) (cwV 1 hts gX10_pairAll_X10_size rfl rfl rfl (by decide +kernel) ⟨Nat.le_of_ble_eq_true rfl, Nat.le_of_ble_eq_true rfl⟩) (kpreV hK hN hP hD [0, 1, 2, 3, 4, 5, 6, 7, 8, 9, 10] rfl (by decide) 10 rfl rfl) rfl rfl hl.1 rfl (lv_room (Nat.le_of_ble_eq_true rfl)) dX10_pairAll_28 ⟨Nat.le_refl _, Nat.le_refl _⟩) hP hD hS hA rfl (fun H locs hP hS => ?_)
    refine lv_goto (tgt := 39) hx hb dX10_pairAll_31 (by decide) ?_
    exact j39 (upd vD0 (364 : Int32).toNatClampNeg (0 : Int32)) q2.1 q2.2 q24 _ _ _ h hP hD hS (lv_sub hl [0] rfl)
set_option maxHeartbeats 8000000 in
set_option maxRecDepth 100000 in
theorem kX10_swap (l : Launch) (D : va_G) (cI cC cS : ClassId) (aD : Nat × Nat × Nat × Nat × Nat × Nat × Nat × Nat × Nat × Nat × Nat) (vD0 : (Nat → Int32)) (vD1 : (Nat → Int32)) (vD2 : Int32) (vD3 : Int32) (vD4 : (Nat → Int32)) (vD5 : Int32) (vD6 : Int32) (vD7 : Int32) (vD8 : Int32) (vD9 : Int32) (vD10 : Int32) (vD11 : (Nat → Int32)) (vD12 : (Nat → Int32)) (vD13 : Int32) (vD14 : Int32) (vD15 : (Nat → Int32)) (vD16 : Int32) (vD17 : Int32) (vD18 : Int32) (vD19 : (Nat → Int32)) (vD20 : (Nat → Int32)) (vD21 : (Nat → Int32)) (vD22 : (Nat → Int32)) (i1 : Int32) (i2 : Int32) (sz : Nat) {q : (Nat → Int32)} (h : pX10_swap vD0 i1 i2 = some q) : kMv l yX10_swap wsX10_swap ({ frames := 0, cells := 0, slots := 0, locals := 0 } : Room) D (kTy cI cC cS) [.ref aD.1, .int i1, .int i2] (wMD cC cI aD vD0 vD1 vD2 vD3 vD4 vD5 vD6 vD7 vD8 vD9 vD10 vD11 vD12 vD13 vD14 vD15 vD16 vD17 vD18 vD19 vD20 vD21 vD22) sz (wMD cC cI aD q vD1 vD2 vD3 vD4 vD5 vD6 vD7 vD8 vD9 vD10 vD11 vD12 vD13 vD14 vD15 vD16 vD17 vD18 vD19 vD20 vD21 vD22) := by
  refine Met.ofW (cc := cX10_swap) (maxL := 4) (ret := none) (by decide) rfl ?_
  intro p e s m args below meth c s₁ B hml hv
  obtain ⟨rfl, hsz, hP, hK, hD0, hN⟩ := hv
  have hx := B.exec
  have hb := B.bytes
  have hr := B.returns
  have hts := atoms_spec (ws := wsX10_swap) B.pre
  have hown : s.vm.findClass RX10 = some m.cls := findClass_of_methodNamed B.named
  have hlocks := B.notSynchronized
  subst hsz
  have hD := hD0.self (sz := s.heap.size)
  generalize hAe : va_A (wMD cC cI aD vD0 vD1 vD2 vD3 vD4 vD5 vD6 vD7 vD8 vD9 vD10 vD11 vD12 vD13 vD14 vD15 vD16 vD17 vD18 vD19 vD20 vD21 vD22) s.heap.size = A at hD ⊢
  have hA : ∀ q : Nat, s.heap.size ≤ q → A q := fun q h => by rw [← hAe]; exact Or.inr h
  have hS : va_S A s.heap s.heap [] := va_S.rf
  have huX10 : ∀ w ∈ u_ws RX10 TX10 23, w ∈ wsX10_swap := by decide +kernel
  have hl := lv_entry ([.ref aD.1, .int i1, .int i2]) (n := 4) (Nat.le_of_ble_eq_true rfl)
  rw [lg_entry_eq]
  generalize (lg_sl ([.ref aD.1, .int i1, .int i2]) ++ List.replicate (4 - (lg_sl ([.ref aD.1, .int i1, .int i2])).length) Slot.unset).toArray = ls at hl ⊢
  have hl : lv_has ls 4 [(0, .ref aD.1), (1, .int i1), (2, .int i2)] := hl
  unfold pX10_swap at h
  refine lv_aload_n hx hb dX10_swap_0 rfl (lv_at hl 0 rfl) ?_
  refine va_get (D := D) (ci := 10) (v := .ref aD.2.1) (C := RX10) (T := TX10) (N := 23) hx hb hts huX10 hown hK hP 0 rfl rfl 0 (by decide) (hts (.fieldLink RX10 7 "VerseColumnsModel" "row" "[I") (by decide +kernel)) (fun _ h9 => h9) rfl dX10_swap_1 ?_
  refine lv_iload_n hx hb dX10_swap_4 rfl (lv_at hl 1 rfl) ?_
  obtain ⟨g, h⟩ := kif h
  refine va_iald hx hb hK hP 1 0 rfl rfl (kin g) dX10_swap_5 ?_
  refine lv_istore_n (lv' := [(3, .int (vD0 i1.toNatClampNeg)), (0, .ref aD.1), (1, .int i1), (2, .int i2)]) hx hb dX10_swap_6 rfl hl (by decide) rfl (fun ls hl => ?_)
  refine lv_aload_n hx hb dX10_swap_7 rfl (lv_at hl 1 rfl) ?_
  refine va_get (D := D) (ci := 10) (v := .ref aD.2.1) (C := RX10) (T := TX10) (N := 23) hx hb hts huX10 hown hK hP 0 rfl rfl 0 (by decide) (hts (.fieldLink RX10 7 "VerseColumnsModel" "row" "[I") (by decide +kernel)) (fun _ h9 => h9) rfl dX10_swap_8 ?_
  refine lv_iload_n hx hb dX10_swap_11 rfl (lv_at hl 2 rfl) ?_
  refine lv_aload_n hx hb dX10_swap_12 rfl (lv_at hl 1 rfl) ?_
  refine va_get (D := D) (ci := 10) (v := .ref aD.2.1) (C := RX10) (T := TX10) (N := 23) hx hb hts huX10 hown hK hP 0 rfl rfl 0 (by decide) (hts (.fieldLink RX10 7 "VerseColumnsModel" "row" "[I") (by decide +kernel)) (fun _ h9 => h9) rfl dX10_swap_13 ?_
  refine lv_iload_n hx hb dX10_swap_16 rfl (lv_at hl 3 rfl) ?_
  obtain ⟨g, h⟩ := kif h
  refine va_iald hx hb hK hP 1 0 rfl rfl (kin g) dX10_swap_17 ?_
  obtain ⟨g, h⟩ := kif h
  refine va_iast hx hb hK hP hD hS 1 0 rfl rfl (kin g) dX10_swap_18 (fun H locs hP hD hS => ?_)
  have hP : va_P D vwCl (wMD cC cI aD (upd vD0 i1.toNatClampNeg (vD0 i2.toNatClampNeg)) vD1 vD2 vD3 vD4 vD5 vD6 vD7 vD8 vD9 vD10 vD11 vD12 vD13 vD14 vD15 vD16 vD17 vD18 vD19 vD20 vD21 vD22) H := hP
  have hD : va_D A (wMD cC cI aD (upd vD0 i1.toNatClampNeg (vD0 i2.toNatClampNeg)) vD1 vD2 vD3 vD4 vD5 vD6 vD7 vD8 vD9 vD10 vD11 vD12 vD13 vD14 vD15 vD16 vD17 vD18 vD19 vD20 vD21 vD22) := hD
  refine lv_aload_n hx hb dX10_swap_19 rfl (lv_at hl 1 rfl) ?_
  refine va_get (D := D) (ci := 10) (v := .ref aD.2.1) (C := RX10) (T := TX10) (N := 23) hx hb hts huX10 hown hK hP 0 rfl rfl 0 (by decide) (hts (.fieldLink RX10 7 "VerseColumnsModel" "row" "[I") (by decide +kernel)) (fun _ h9 => h9) rfl dX10_swap_20 ?_
  refine lv_iload_n hx hb dX10_swap_23 rfl (lv_at hl 3 rfl) ?_
  refine lv_iload_n hx hb dX10_swap_24 rfl (lv_at hl 0 rfl) ?_
  obtain ⟨g, h⟩ := kif h
  refine va_iast hx hb hK hP hD hS 1 0 rfl rfl (kin g) dX10_swap_25 (fun H locs hP hD hS => ?_)
  have hP : va_P D vwCl (wMD cC cI aD (upd (upd vD0 i1.toNatClampNeg (vD0 i2.toNatClampNeg)) i2.toNatClampNeg (vD0 i1.toNatClampNeg)) vD1 vD2 vD3 vD4 vD5 vD6 vD7 vD8 vD9 vD10 vD11 vD12 vD13 vD14 vD15 vD16 vD17 vD18 vD19 vD20 vD21 vD22) H := hP
  have hD : va_D A (wMD cC cI aD (upd (upd vD0 i1.toNatClampNeg (vD0 i2.toNatClampNeg)) i2.toNatClampNeg (vD0 i1.toNatClampNeg)) vD1 vD2 vD3 vD4 vD5 vD6 vD7 vD8 vD9 vD10 vD11 vD12 vD13 vD14 vD15 vD16 vD17 vD18 vD19 vD20 vD21 vD22) := hD
  obtain rfl := Option.some.inj h
  exact W.vret hx hb hr (fun t ht hW => ⟨⟨(), rfl, trivial, by rw [ht]; exact hP, hD⟩, hS.F ht⟩) hS.2.2 dX10_swap_26
