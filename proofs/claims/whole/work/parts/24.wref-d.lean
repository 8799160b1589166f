-- walks: ref (printed by wip/whole/gen)
set_option maxHeartbeats 8000000 in
set_option maxRecDepth 100000 in
theorem kX10_joinVerses (l : Launch) (D : va_G) (cI cC cS : ClassId) (aD : Nat × Nat × Nat × Nat × Nat × Nat × Nat × Nat × Nat × Nat × Nat) (vD0 : (Nat → Int32)) (vD1 : (Nat → Int32)) (vD2 : Int32) (vD3 : Int32) (vD4 : (Nat → Int32)) (vD5 : Int32) (vD6 : Int32) (vD7 : Int32) (vD8 : Int32) (vD9 : Int32) (vD10 : Int32) (vD11 : (Nat → Int32)) (vD12 : (Nat → Int32)) (vD13 : Int32) (vD14 : Int32) (vD15 : (Nat → Int32)) (vD16 : Int32) (vD17 : Int32) (vD18 : Int32) (vD19 : (Nat → Int32)) (vD20 : (Nat → Int32)) (vD21 : (Nat → Int32)) (vD22 : (Nat → Int32)) (i1 : Int32) (i2 : Int32) (sz : Nat) {q : Int32 × (Nat → Int32) × (Nat → Int32) × Int32} (h : pX10_joinVerses vD0 vD1 vD2 i1 i2 = some q) : kMi l yX10_joinVerses wsX10_joinVerses ({ frames := 3, cells := 0, slots := 0, locals := 64 } : Room) D (kTy cI cC cS) [.ref aD.1, .int i1, .int i2] (wMD cC cI aD vD0 vD1 vD2 vD3 vD4 vD5 vD6 vD7 vD8 vD9 vD10 vD11 vD12 vD13 vD14 vD15 vD16 vD17 vD18 vD19 vD20 vD21 vD22) sz q.1 (wMD cC cI aD q.2.1 q.2.2.1 q.2.2.2 vD3 vD4 vD5 vD6 vD7 vD8 vD9 vD10 vD11 vD12 vD13 vD14 vD15 vD16 vD17 vD18 vD19 vD20 vD21 vD22) := by
  refine Met.ofW (cc := cX10_joinVerses) (maxL := 8) (ret := (some .int)) (by decide) rfl ?_
  intro p e s m args below meth c s₁ B hml hv
  obtain ⟨rfl, hsz, hP, hK, hD0, hN⟩ := hv
  have hx := B.exec
  have hb := B.bytes
  have hr := B.returns
  have hts := atoms_spec (ws := wsX10_joinVerses) B.pre
  have hown : s.vm.findClass RX10 = some m.cls := findClass_of_methodNamed B.named
  have hlocks := B.notSynchronized
  subst hsz
  have hD := hD0.self (sz := s.heap.size)
  generalize hAe : va_A (wMD cC cI aD vD0 vD1 vD2 vD3 vD4 vD5 vD6 vD7 vD8 vD9 vD10 vD11 vD12 vD13 vD14 vD15 vD16 vD17 vD18 vD19 vD20 vD21 vD22) s.heap.size = A at hD ⊢
  have hA : ∀ q : Nat, s.heap.size ≤ q → A q := fun q h => by rw [← hAe]; exact Or.inr h
  have hS : va_S A s.heap s.heap [] := va_S.rf
  have huX10 : ∀ w ∈ u_ws RX10 TX10 23, w ∈ wsX10_joinVerses := by decide +kernel
  have hl := lv_entry ([.ref aD.1, .int i1, .int i2]) (n := 8) (Nat.le_of_ble_eq_true rfl)
  rw [lg_entry_eq]
  generalize (lg_sl ([.ref aD.1, .int i1, .int i2]) ++ List.replicate (8 - (lg_sl ([.ref aD.1, .int i1, .int i2])).length) Slot.unset).toArray = ls at hl ⊢
  have hl : lv_has ls 8 [(0, .ref aD.1), (1, .int i1), (2, .int i2)] := hl
  have L208 : ∀ (nL208 : Nat) (c0_0 : (Nat → Int32)) (c0_1 : (Nat → Int32)) (c0_2 : Int32) (y1 : Int32) (y7 : Int32) (H : Heap) (locs : List Loc) (ls : Array Slot), pX10_joinVerses_L208  nL208 c0_0 c0_1 c0_2 y1 y7 = some q → va_P D vwCl (wMD cC cI aD c0_0 c0_1 c0_2 vD3 vD4 vD5 vD6 vD7 vD8 vD9 vD10 vD11 vD12 vD13 vD14 vD15 vD16 vD17 vD18 vD19 vD20 vD21 vD22) H → va_D A (wMD cC cI aD c0_0 c0_1 c0_2 vD3 vD4 vD5 vD6 vD7 vD8 vD9 vD10 vD11 vD12 vD13 vD14 vD15 vD16 vD17 vD18 vD19 vD20 vD21 vD22) → va_S A s.heap H locs → lv_has ls 8 [(0, .ref aD.1), (1, .int y1), (7, .int y7)] → W p l e ({ frames := 3, cells := 0, slots := 0, locals := 64 } : Room) s m ([.ref aD.1, .int i1, .int i2] : List Value).toArray below meth c H locs 0 0 (MQ below (va_Qi (fun (r : Int32) (_ : Unit) => r = q.1) (fun _ => kPost D (wMD cC cI aD q.2.1 q.2.2.1 q.2.2.2 vD3 vD4 vD5 vD6 vD7 vD8 vD9 vD10 vD11 vD12 vD13 vD14 vD15 vD16 vD17 vD18 vD19 vD20 vD21 vD22) A) A) ([.ref aD.1, .int i1, .int i2] : List Value).toArray s 0 0 A) (F0 m 208 ls []) := by
    clear h hP hD hS hl
    intro nL208
    induction nL208 with
    | zero => intro c0_0 c0_1 c0_2 y1 y7 H locs ls h; have h : (none : Option (Int32 × (Nat → Int32) × (Nat → Int32) × Int32)) = some q := h; cases h
    | succ nL208 ihL208 =>
      intro c0_0 c0_1 c0_2 y1 y7 H locs ls h hP hD hS hl
      have h : pX10_joinVerses_bL208 (pX10_joinVerses_L208  nL208) c0_0 c0_1 c0_2 y1 y7 = some q := h
      unfold pX10_joinVerses_bL208 at h
      refine lv_iload hx hb dX10_joinVerses_208 (lv_at hl 2 rfl) ?_
      refine lv_aload_n hx hb dX10_joinVerses_210 rfl (lv_at hl 0 rfl) ?_
      refine lv_iload_n hx hb dX10_joinVerses_211 rfl (lv_at hl 1 rfl) ?_
      obtain ⟨q18, h17, h⟩ := Option.bind_eq_some_iff.mp h
      refine kcir [0, 1, 2, 3, 4, 5, 6, 7, 8, 9, 10] (va_runV (As := [.int y1]) (rest := [.int y7]) ⟨hx, hb, hml, hown, hts⟩ (kX10_size l D cI cC cS aD c0_0 c0_1 c0_2 vD3 vD4 vD5 vD6 vD7 vD8 vD9 vD10 vD11 vD12 vD13 vD14 vD15 vD16 vD17 vD18 vD19 vD20 vD21 vD22 y1 H.size h17) (cwV 1 hts gX10_joinVerses_X10_size rfl rfl rfl (by decide +kernel) ⟨Nat.le_of_ble_eq_true rfl, Nat.le_of_ble_eq_true rfl⟩) (kpreV hK hN hP hD [0, 1, 2, 3, 4, 5, 6, 7, 8, 9, 10] rfl (by decide) 10 rfl rfl) rfl rfl hl.1 rfl (lv_room (Nat.le_of_ble_eq_true rfl)) dX10_joinVerses_212 ⟨Nat.le_refl _, Nat.le_refl _⟩) hP hD hS hA rfl (fun H locs hP hS => ?_)
      refine lv_icmp_ge (tgt := 244) hx hb dX10_joinVerses_215 (by decide) (fun g => ?_) (fun g => ?_)
      · rw [if_pos g] at h
        refine lv_aload_n hx hb dX10_joinVerses_244 rfl (lv_at hl 0 rfl) ?_
        refine lv_iload_n hx hb dX10_joinVerses_245 rfl (lv_at hl 1 rfl) ?_
        obtain ⟨q20, h19, h⟩ := Option.bind_eq_some_iff.mp h
        refine kcir [0, 1, 2, 3, 4, 5, 6, 7, 8, 9, 10] (va_runV (As := [.int y1]) (rest := []) ⟨hx, hb, hml, hown, hts⟩ (kX10_size l D cI cC cS aD c0_0 c0_1 c0_2 vD3 vD4 vD5 vD6 vD7 vD8 vD9 vD10 vD11 vD12 vD13 vD14 vD15 vD16 vD17 vD18 vD19 vD20 vD21 vD22 y1 H.size h19) (cwV 1 hts gX10_joinVerses_X10_size rfl rfl rfl (by decide +kernel) ⟨Nat.le_of_ble_eq_true rfl, Nat.le_of_ble_eq_true rfl⟩) (kpreV hK hN hP hD [0, 1, 2, 3, 4, 5, 6, 7, 8, 9, 10] rfl (by decide) 10 rfl rfl) rfl rfl hl.1 rfl (lv_room (Nat.le_of_ble_eq_true rfl)) dX10_joinVerses_246 ⟨Nat.le_refl _, Nat.le_refl _⟩) hP hD hS hA rfl (fun H locs hP hS => ?_)
        obtain rfl := Option.some.inj h
        exact W.iret (v := q20) hx hb hr (fun t ht hW => ⟨⟨_, (), rfl, rfl, by rw [ht]; exact hP, hD⟩, hS.F ht⟩) hS.2.2 dX10_joinVerses_249
      · rw [if_neg g] at h
        refine lv_aload_n hx hb dX10_joinVerses_218 rfl (lv_at hl 0 rfl) ?_
        refine lv_bipush (v := (60 : Int32)) hx hb dX10_joinVerses_219 (by decide) ?_
        refine lv_iload_n hx hb dX10_joinVerses_221 rfl (lv_at hl 1 rfl) ?_
        refine lv_imul hx hb dX10_joinVerses_222 ?_
        refine lv_iload hx hb dX10_joinVerses_223 (lv_at hl 2 rfl) ?_
        refine lv_iadd hx hb dX10_joinVerses_225 ?_
        refine lv_iconst (v := (1 : Int32)) hx hb dX10_joinVerses_226 (by decide) ?_
        refine lv_iadd hx hb dX10_joinVerses_227 ?_
        refine lv_bipush (v := (60 : Int32)) hx hb dX10_joinVerses_228 (by decide) ?_
        refine lv_iload_n hx hb dX10_joinVerses_230 rfl (lv_at hl 1 rfl) ?_
        refine lv_imul hx hb dX10_joinVerses_231 ?_
        refine lv_iload hx hb dX10_joinVerses_232 (lv_at hl 2 rfl) ?_
        refine lv_iadd hx hb dX10_joinVerses_234 ?_
        obtain ⟨q22, h21, h⟩ := Option.bind_eq_some_iff.mp h
        refine kcvw (ws' := (wMD cC cI aD q22 c0_1 c0_2 vD3 vD4 vD5 vD6 vD7 vD8 vD9 vD10 vD11 vD12 vD13 vD14 vD15 vD16 vD17 vD18 vD19 vD20 vD21 vD22)) [0, 1, 2, 3, 4, 5, 6, 7, 8, 9, 10] (va_runV (As := [.int ((((60 : Int32) * y1) + y7) + (1 : Int32)), .int (((60 : Int32) * y1) + y7)]) (rest := []) ⟨hx, hb, hml, hown, hts⟩ (kX10_copyVerse l D cI cC cS aD c0_0 c0_1 c0_2 vD3 vD4 vD5 vD6 vD7 vD8 vD9 vD10 vD11 vD12 vD13 vD14 vD15 vD16 vD17 vD18 vD19 vD20 vD21 vD22 ((((60 : Int32) * y1) + y7) + (1 : Int32)) (((60 : Int32) * y1) + y7) H.size h21) (cwV 2 hts gX10_joinVerses_X10_copyVerse rfl rfl rfl (by decide +kernel) ⟨Nat.le_of_ble_eq_true rfl, Nat.le_of_ble_eq_true rfl⟩) (kpreV hK hN hP hD [0, 1, 2, 3, 4, 5, 6, 7, 8, 9, 10] rfl (by decide) 10 rfl rfl) rfl rfl hl.1 rfl (lv_room (Nat.le_of_ble_eq_true rfl)) dX10_joinVerses_235 ⟨Nat.le_refl _, Nat.le_refl _⟩) hP hD hS hA rfl (by decide) rfl [1, 2, 3, 4, 5, 6, 7, 8, 9, 10, 11] (by decide +kernel) rfl (fun H locs hP hD hS => ?_)
        refine lv_iinc (v := (y7 + (1 : Int32))) (lv' := [(7, .int (y7 + (1 : Int32))), (0, .ref aD.1), (1, .int y1)]) hx hb dX10_joinVerses_238 hl (k := 2) rfl rfl (by decide) rfl (fun ls hl => ?_)
        refine lv_goto (tgt := 208) hx hb dX10_joinVerses_241 (by decide) ?_
        exact ihL208 q22 c0_1 c0_2 y1 (y7 + (1 : Int32)) _ _ _ h hP hD hS (lv_sub hl [1, 2, 0] rfl)
  have j182 : ∀ (c0_0 : (Nat → Int32)) (c0_1 : (Nat → Int32)) (c0_2 : Int32) (y1 : Int32) (y2 : Int32) (y3 : Int32) (t1 : Int32) (H : Heap) (locs : List Loc) (ls : Array Slot), pX10_joinVerses_j182  c0_0 c0_1 c0_2 y1 y2 y3 t1 = some q → va_P D vwCl (wMD cC cI aD c0_0 c0_1 c0_2 vD3 vD4 vD5 vD6 vD7 vD8 vD9 vD10 vD11 vD12 vD13 vD14 vD15 vD16 vD17 vD18 vD19 vD20 vD21 vD22) H → va_D A (wMD cC cI aD c0_0 c0_1 c0_2 vD3 vD4 vD5 vD6 vD7 vD8 vD9 vD10 vD11 vD12 vD13 vD14 vD15 vD16 vD17 vD18 vD19 vD20 vD21 vD22) → va_S A s.heap H locs → lv_has ls 8 [(0, .ref aD.1), (1, .int y1), (2, .int y2), (3, .int y3)] → W p l e ({ frames := 3, cells := 0, slots := 0, locals := 64 } : Room) s m ([.ref aD.1, .int i1, .int i2] : List Value).toArray below meth c H locs 0 0 (MQ below (va_Qi (fun (r : Int32) (_ : Unit) => r = q.1) (fun _ => kPost D (wMD cC cI aD q.2.1 q.2.2.1 q.2.2.2 vD3 vD4 vD5 vD6 vD7 vD8 vD9 vD10 vD11 vD12 vD13 vD14 vD15 vD16 vD17 vD18 vD19 vD20 vD21 vD22) A) A) ([.ref aD.1, .int i1, .int i2] : List Value).toArray s 0 0 A) (F0 m 182 ls [.int t1, .ref aD.2.1]) := by
    clear h hP hD hS hl
    intro c0_0 c0_1 c0_2 y1 y2 y3 t1 H locs ls h hP hD hS hl
    unfold pX10_joinVerses_j182 at h
    refine lv_iload_n hx hb dX10_joinVerses_182 rfl (lv_at hl 3 rfl) ?_
    refine lv_iadd hx hb dX10_joinVerses_183 ?_
    refine lv_dup2_11 hx hb dX10_joinVerses_184 rfl rfl ?_
    obtain ⟨g, h⟩ := kif h
    refine va_iald hx hb hK hP 1 0 rfl rfl (kin g) dX10_joinVerses_185 ?_
    refine lv_iconst (v := (1 : Int32)) hx hb dX10_joinVerses_186 (by decide) ?_
    refine lv_isub hx hb dX10_joinVerses_187 ?_
    obtain ⟨g, h⟩ := kif h
    refine va_iast hx hb hK hP hD hS 1 0 rfl rfl (kin g) dX10_joinVerses_188 (fun H locs hP hD hS => ?_)
    have hP : va_P D vwCl (wMD cC cI aD (upd c0_0 (t1 + y3).toNatClampNeg ((c0_0 (t1 + y3).toNatClampNeg) - (1 : Int32))) c0_1 c0_2 vD3 vD4 vD5 vD6 vD7 vD8 vD9 vD10 vD11 vD12 vD13 vD14 vD15 vD16 vD17 vD18 vD19 vD20 vD21 vD22) H := hP
    have hD : va_D A (wMD cC cI aD (upd c0_0 (t1 + y3).toNatClampNeg ((c0_0 (t1 + y3).toNatClampNeg) - (1 : Int32))) c0_1 c0_2 vD3 vD4 vD5 vD6 vD7 vD8 vD9 vD10 vD11 vD12 vD13 vD14 vD15 vD16 vD17 vD18 vD19 vD20 vD21 vD22) := hD
    refine lv_aload_n hx hb dX10_joinVerses_189 rfl (lv_at hl 0 rfl) ?_
    refine va_get (D := D) (ci := 10) (v := .ref aD.2.1) (C := RX10) (T := TX10) (N := 23) hx hb hts huX10 hown hK hP 0 rfl rfl 0 (by decide) (hts (.fieldLink RX10 7 "VerseColumnsModel" "row" "[I") (by decide +kernel)) (fun _ h9 => h9) rfl dX10_joinVerses_190 ?_
    refine lv_sipush (v := (360 : Int32)) hx hb dX10_joinVerses_193 (by decide) ?_
    refine lv_iload_n hx hb dX10_joinVerses_196 rfl (lv_at hl 1 rfl) ?_
    refine lv_iadd hx hb dX10_joinVerses_197 ?_
    refine lv_dup2_11 hx hb dX10_joinVerses_198 rfl rfl ?_
    obtain ⟨g, h⟩ := kif h
    refine va_iald hx hb hK hP 1 0 rfl rfl (kin g) dX10_joinVerses_199 ?_
    refine lv_iconst (v := (1 : Int32)) hx hb dX10_joinVerses_200 (by decide) ?_
    refine lv_isub hx hb dX10_joinVerses_201 ?_
    obtain ⟨g, h⟩ := kif h
    refine va_iast hx hb hK hP hD hS 1 0 rfl rfl (kin g) dX10_joinVerses_202 (fun H locs hP hD hS => ?_)
    have hP : va_P D vwCl (wMD cC cI aD (upd (upd c0_0 (t1 + y3).toNatClampNeg ((c0_0 (t1 + y3).toNatClampNeg) - (1 : Int32))) ((360 : Int32) + y1).toNatClampNeg (((upd c0_0 (t1 + y3).toNatClampNeg ((c0_0 (t1 + y3).toNatClampNeg) - (1 : Int32))) ((360 : Int32) + y1).toNatClampNeg) - (1 : Int32))) c0_1 c0_2 vD3 vD4 vD5 vD6 vD7 vD8 vD9 vD10 vD11 vD12 vD13 vD14 vD15 vD16 vD17 vD18 vD19 vD20 vD21 vD22) H := hP
    have hD : va_D A (wMD cC cI aD (upd (upd c0_0 (t1 + y3).toNatClampNeg ((c0_0 (t1 + y3).toNatClampNeg) - (1 : Int32))) ((360 : Int32) + y1).toNatClampNeg (((upd c0_0 (t1 + y3).toNatClampNeg ((c0_0 (t1 + y3).toNatClampNeg) - (1 : Int32))) ((360 : Int32) + y1).toNatClampNeg) - (1 : Int32))) c0_1 c0_2 vD3 vD4 vD5 vD6 vD7 vD8 vD9 vD10 vD11 vD12 vD13 vD14 vD15 vD16 vD17 vD18 vD19 vD20 vD21 vD22) := hD
    refine lv_iload_n hx hb dX10_joinVerses_203 rfl (lv_at hl 2 rfl) ?_
    refine lv_iconst (v := (1 : Int32)) hx hb dX10_joinVerses_204 (by decide) ?_
    refine lv_iadd hx hb dX10_joinVerses_205 ?_
    refine lv_istore (lv' := [(7, .int (y2 + (1 : Int32))), (0, .ref aD.1), (1, .int y1), (2, .int y2), (3, .int y3)]) hx hb dX10_joinVerses_206 hl (by decide) rfl (fun ls hl => ?_)
    exact L208 4000 (upd (upd c0_0 (t1 + y3).toNatClampNeg ((c0_0 (t1 + y3).toNatClampNeg) - (1 : Int32))) ((360 : Int32) + y1).toNatClampNeg (((upd c0_0 (t1 + y3).toNatClampNeg ((c0_0 (t1 + y3).toNatClampNeg) - (1 : Int32))) ((360 : Int32) + y1).toNatClampNeg) - (1 : Int32))) c0_1 c0_2 y1 (y2 + (1 : Int32)) _ _ _ h hP hD hS (lv_sub hl [1, 2, 0] rfl)
  have j164 : ∀ (c0_0 : (Nat → Int32)) (c0_1 : (Nat → Int32)) (c0_2 : Int32) (y1 : Int32) (y2 : Int32) (y3 : Int32) (t1 : Int32) (t2 : Int32) (H : Heap) (locs : List Loc) (ls : Array Slot), pX10_joinVerses_j164  c0_0 c0_1 c0_2 y1 y2 y3 t1 t2 = some q → va_P D vwCl (wMD cC cI aD c0_0 c0_1 c0_2 vD3 vD4 vD5 vD6 vD7 vD8 vD9 vD10 vD11 vD12 vD13 vD14 vD15 vD16 vD17 vD18 vD19 vD20 vD21 vD22) H → va_D A (wMD cC cI aD c0_0 c0_1 c0_2 vD3 vD4 vD5 vD6 vD7 vD8 vD9 vD10 vD11 vD12 vD13 vD14 vD15 vD16 vD17 vD18 vD19 vD20 vD21 vD22) → va_S A s.heap H locs → lv_has ls 8 [(0, .ref aD.1), (1, .int y1), (2, .int y2), (3, .int y3)] → W p l e ({ frames := 3, cells := 0, slots := 0, locals := 64 } : Room) s m ([.ref aD.1, .int i1, .int i2] : List Value).toArray below meth c H locs 0 0 (MQ below (va_Qi (fun (r : Int32) (_ : Unit) => r = q.1) (fun _ => kPost D (wMD cC cI aD q.2.1 q.2.2.1 q.2.2.2 vD3 vD4 vD5 vD6 vD7 vD8 vD9 vD10 vD11 vD12 vD13 vD14 vD15 vD16 vD17 vD18 vD19 vD20 vD21 vD22) A) A) ([.ref aD.1, .int i1, .int i2] : List Value).toArray s 0 0 A) (F0 m 164 ls [.int t2, .int t1, .ref aD.2.1]) := by
    clear h hP hD hS hl
    intro c0_0 c0_1 c0_2 y1 y2 y3 t1 t2 H locs ls h hP hD hS hl
    unfold pX10_joinVerses_j164 at h
    obtain ⟨g, h⟩ := kif h
    refine va_iast hx hb hK hP hD hS 1 0 rfl rfl (kin g) dX10_joinVerses_164 (fun H locs hP hD hS => ?_)
    have hP : va_P D vwCl (wMD cC cI aD (upd c0_0 t1.toNatClampNeg t2) c0_1 c0_2 vD3 vD4 vD5 vD6 vD7 vD8 vD9 vD10 vD11 vD12 vD13 vD14 vD15 vD16 vD17 vD18 vD19 vD20 vD21 vD22) H := hP
    have hD : va_D A (wMD cC cI aD (upd c0_0 t1.toNatClampNeg t2) c0_1 c0_2 vD3 vD4 vD5 vD6 vD7 vD8 vD9 vD10 vD11 vD12 vD13 vD14 vD15 vD16 vD17 vD18 vD19 vD20 vD21 vD22) := hD
    refine lv_aload_n hx hb dX10_joinVerses_165 rfl (lv_at hl 0 rfl) ?_
    refine va_get (D := D) (ci := 10) (v := .ref aD.2.1) (C := RX10) (T := TX10) (N := 23) hx hb hts huX10 hown hK hP 0 rfl rfl 0 (by decide) (hts (.fieldLink RX10 7 "VerseColumnsModel" "row" "[I") (by decide +kernel)) (fun _ h9 => h9) rfl dX10_joinVerses_166 ?_
    refine lv_iload_n hx hb dX10_joinVerses_169 rfl (lv_at hl 1 rfl) ?_
    refine lv_if_ne (tgt := 179) hx hb dX10_joinVerses_170 (by decide) (fun g => ?_) (fun g => ?_)
    · rw [if_neg g] at h
      refine lv_sipush (v := (485 : Int32)) hx hb dX10_joinVerses_179 (by decide) ?_
      exact j182 (upd c0_0 t1.toNatClampNeg t2) c0_1 c0_2 y1 y2 y3 (485 : Int32) _ _ _ h hP hD hS (lv_sub hl [0, 1, 2, 3] rfl)
    · rw [if_pos g] at h
      refine lv_sipush (v := (365 : Int32)) hx hb dX10_joinVerses_173 (by decide) ?_
      refine lv_goto (tgt := 182) hx hb dX10_joinVerses_176 (by decide) ?_
      exact j182 (upd c0_0 t1.toNatClampNeg t2) c0_1 c0_2 y1 y2 y3 (365 : Int32) _ _ _ h hP hD hS (lv_sub hl [0, 1, 2, 3] rfl)
  have j140 : ∀ (c0_0 : (Nat → Int32)) (c0_1 : (Nat → Int32)) (c0_2 : Int32) (y1 : Int32) (y2 : Int32) (y3 : Int32) (y4 : Int32) (y6 : Int32) (t1 : Int32) (t2 : Int32) (H : Heap) (locs : List Loc) (ls : Array Slot), pX10_joinVerses_j140  c0_0 c0_1 c0_2 y1 y2 y3 y4 y6 t1 t2 = some q → va_P D vwCl (wMD cC cI aD c0_0 c0_1 c0_2 vD3 vD4 vD5 vD6 vD7 vD8 vD9 vD10 vD11 vD12 vD13 vD14 vD15 vD16 vD17 vD18 vD19 vD20 vD21 vD22) H → va_D A (wMD cC cI aD c0_0 c0_1 c0_2 vD3 vD4 vD5 vD6 vD7 vD8 vD9 vD10 vD11 vD12 vD13 vD14 vD15 vD16 vD17 vD18 vD19 vD20 vD21 vD22) → va_S A s.heap H locs → lv_has ls 8 [(0, .ref aD.1), (1, .int y1), (2, .int y2), (3, .int y3), (4, .int y4), (6, .int y6)] → W p l e ({ frames := 3, cells := 0, slots := 0, locals := 64 } : Room) s m ([.ref aD.1, .int i1, .int i2] : List Value).toArray below meth c H locs 0 0 (MQ below (va_Qi (fun (r : Int32) (_ : Unit) => r = q.1) (fun _ => kPost D (wMD cC cI aD q.2.1 q.2.2.1 q.2.2.2 vD3 vD4 vD5 vD6 vD7 vD8 vD9 vD10 vD11 vD12 vD13 vD14 vD15 vD16 vD17 vD18 vD19 vD20 vD21 vD22) A) A) ([.ref aD.1, .int i1, .int i2] : List Value).toArray s 0 0 A) (F0 m 140 ls [.int t2, .int t1, .ref aD.2.1]) := by
    clear h hP hD hS hl
    intro c0_0 c0_1 c0_2 y1 y2 y3 y4 y6 t1 t2 H locs ls h hP hD hS hl
    unfold pX10_joinVerses_j140 at h
    obtain ⟨g, h⟩ := kif h
    refine va_iast hx hb hK hP hD hS 1 0 rfl rfl (kin g) dX10_joinVerses_140 (fun H locs hP hD hS => ?_)
    have hP : va_P D vwCl (wMD cC cI aD (upd c0_0 t1.toNatClampNeg t2) c0_1 c0_2 vD3 vD4 vD5 vD6 vD7 vD8 vD9 vD10 vD11 vD12 vD13 vD14 vD15 vD16 vD17 vD18 vD19 vD20 vD21 vD22) H := hP
    have hD : va_D A (wMD cC cI aD (upd c0_0 t1.toNatClampNeg t2) c0_1 c0_2 vD3 vD4 vD5 vD6 vD7 vD8 vD9 vD10 vD11 vD12 vD13 vD14 vD15 vD16 vD17 vD18 vD19 vD20 vD21 vD22) := hD
    refine lv_aload_n hx hb dX10_joinVerses_141 rfl (lv_at hl 0 rfl) ?_
    refine va_get (D := D) (ci := 10) (v := .ref aD.2.1) (C := RX10) (T := TX10) (N := 23) hx hb hts huX10 hown hK hP 0 rfl rfl 0 (by decide) (hts (.fieldLink RX10 7 "VerseColumnsModel" "row" "[I") (by decide +kernel)) (fun _ h9 => h9) rfl dX10_joinVerses_142 ?_
    refine lv_bipush (v := (120 : Int32)) hx hb dX10_joinVerses_145 (by decide) ?_
    refine lv_iload hx hb dX10_joinVerses_147 (lv_at hl 4 rfl) ?_
    refine lv_iadd hx hb dX10_joinVerses_149 ?_
    refine lv_iload hx hb dX10_joinVerses_150 (lv_at hl 5 rfl) ?_
    refine lv_bipush (v := (10 : Int32)) hx hb dX10_joinVerses_152 (by decide) ?_
    refine lv_icmp_le (tgt := 162) hx hb dX10_joinVerses_154 (by decide) (fun g => ?_) (fun g => ?_)
    · rw [if_pos g] at h
      refine lv_iload hx hb dX10_joinVerses_162 (lv_at hl 5 rfl) ?_
      exact j164 (upd c0_0 t1.toNatClampNeg t2) c0_1 c0_2 y1 y2 y3 ((120 : Int32) + y4) y6 _ _ _ h hP hD hS (lv_sub hl [0, 1, 2, 3] rfl)
    · rw [if_neg g] at h
      refine lv_bipush (v := (10 : Int32)) hx hb dX10_joinVerses_157 (by decide) ?_
      refine lv_goto (tgt := 164) hx hb dX10_joinVerses_159 (by decide) ?_
      exact j164 (upd c0_0 t1.toNatClampNeg t2) c0_1 c0_2 y1 y2 y3 ((120 : Int32) + y4) (10 : Int32) _ _ _ h hP hD hS (lv_sub hl [0, 1, 2, 3] rfl)
  unfold pX10_joinVerses at h
  refine lv_aload_n hx hb dX10_joinVerses_0 rfl (lv_at hl 0 rfl) ?_
  refine lv_iload_n hx hb dX10_joinVerses_1 rfl (lv_at hl 1 rfl) ?_
  refine lv_iload_n hx hb dX10_joinVerses_2 rfl (lv_at hl 2 rfl) ?_
  obtain ⟨q2, h1, h⟩ := Option.bind_eq_some_iff.mp h
  refine kcir [0, 1, 2, 3, 4, 5, 6, 7, 8, 9, 10] (va_runV (As := [.int i1, .int i2]) (rest := []) ⟨hx, hb, hml, hown, hts⟩ (kX10_noVerse l D cI cC cS aD vD0 vD1 vD2 vD3 vD4 vD5 vD6 vD7 vD8 vD9 vD10 vD11 vD12 vD13 vD14 vD15 vD16 vD17 vD18 vD19 vD20 vD21 vD22 i1 i2 s.heap.size h1) (cwV 2 hts gX10_joinVerses_X10_noVerse rfl rfl rfl (by decide +kernel) ⟨Nat.le_of_ble_eq_true rfl, Nat.le_of_ble_eq_true rfl⟩) (kpreV hK hN hP hD [0, 1, 2, 3, 4, 5, 6, 7, 8, 9, 10] rfl (by decide) 10 rfl rfl) rfl rfl hl.1 rfl (lv_room (Nat.le_of_ble_eq_true rfl)) dX10_joinVerses_3 ⟨Nat.le_refl _, Nat.le_refl _⟩) hP hD hS hA rfl (fun H locs hP hS => ?_)
  refine lv_if_eq (tgt := 11) hx hb dX10_joinVerses_6 (by decide) (fun g => ?_) (fun g => ?_)
  · rw [if_pos g] at h
    refine lv_iload_n hx hb dX10_joinVerses_11 rfl (lv_at hl 2 rfl) ?_
    refine lv_iconst (v := (1 : Int32)) hx hb dX10_joinVerses_12 (by decide) ?_
    refine lv_iadd hx hb dX10_joinVerses_13 ?_
    refine lv_aload_n hx hb dX10_joinVerses_14 rfl (lv_at hl 0 rfl) ?_
    refine lv_iload_n hx hb dX10_joinVerses_15 rfl (lv_at hl 1 rfl) ?_
    obtain ⟨q4, h3, h⟩ := Option.bind_eq_some_iff.mp h
    refine kcir [0, 1, 2, 3, 4, 5, 6, 7, 8, 9, 10] (va_runV (As := [.int i1]) (rest := [.int (i2 + (1 : Int32))]) ⟨hx, hb, hml, hown, hts⟩ (kX10_size l D cI cC cS aD vD0 vD1 vD2 vD3 vD4 vD5 vD6 vD7 vD8 vD9 vD10 vD11 vD12 vD13 vD14 vD15 vD16 vD17 vD18 vD19 vD20 vD21 vD22 i1 H.size h3) (cwV 1 hts gX10_joinVerses_X10_size rfl rfl rfl (by decide +kernel) ⟨Nat.le_of_ble_eq_true rfl, Nat.le_of_ble_eq_true rfl⟩) (kpreV hK hN hP hD [0, 1, 2, 3, 4, 5, 6, 7, 8, 9, 10] rfl (by decide) 10 rfl rfl) rfl rfl hl.1 rfl (lv_room (Nat.le_of_ble_eq_true rfl)) dX10_joinVerses_16 ⟨Nat.le_refl _, Nat.le_refl _⟩) hP hD hS hA rfl (fun H locs hP hS => ?_)
    refine lv_icmp_eq (tgt := 39) hx hb dX10_joinVerses_19 (by decide) (fun g => ?_) (fun g => ?_)
    · rw [if_pos g] at h
      refine lv_bipush (v := (-4 : Int32)) hx hb dX10_joinVerses_39 (by decide) ?_
      obtain rfl := Option.some.inj h
      exact W.iret (v := (-4 : Int32)) hx hb hr (fun t ht hW => ⟨⟨_, (), rfl, rfl, by rw [ht]; exact hP, hD⟩, hS.F ht⟩) hS.2.2 dX10_joinVerses_41
    · rw [if_neg g] at h
      refine lv_aload_n hx hb dX10_joinVerses_22 rfl (lv_at hl 0 rfl) ?_
      refine lv_iload_n hx hb dX10_joinVerses_23 rfl (lv_at hl 1 rfl) ?_
      refine lv_iload_n hx hb dX10_joinVerses_24 rfl (lv_at hl 2 rfl) ?_
      obtain ⟨q6, h5, h⟩ := Option.bind_eq_some_iff.mp h
      refine kcir [0, 1, 2, 3, 4, 5, 6, 7, 8, 9, 10] (va_runV (As := [.int i1, .int i2]) (rest := []) ⟨hx, hb, hml, hown, hts⟩ (kX10_chapterOf l D cI cC cS aD vD0 vD1 vD2 vD3 vD4 vD5 vD6 vD7 vD8 vD9 vD10 vD11 vD12 vD13 vD14 vD15 vD16 vD17 vD18 vD19 vD20 vD21 vD22 i1 i2 H.size h5) (cwV 2 hts gX10_joinVerses_X10_chapterOf rfl rfl rfl (by decide +kernel) ⟨Nat.le_of_ble_eq_true rfl, Nat.le_of_ble_eq_true rfl⟩) (kpreV hK hN hP hD [0, 1, 2, 3, 4, 5, 6, 7, 8, 9, 10] rfl (by decide) 10 rfl rfl) rfl rfl hl.1 rfl (lv_room (Nat.le_of_ble_eq_true rfl)) dX10_joinVerses_25 ⟨Nat.le_refl _, Nat.le_refl _⟩) hP hD hS hA rfl (fun H locs hP hS => ?_)
      refine lv_aload_n hx hb dX10_joinVerses_28 rfl (lv_at hl 0 rfl) ?_
      refine lv_iload_n hx hb dX10_joinVerses_29 rfl (lv_at hl 1 rfl) ?_
      refine lv_iload_n hx hb dX10_joinVerses_30 rfl (lv_at hl 2 rfl) ?_
      refine lv_iconst (v := (1 : Int32)) hx hb dX10_joinVerses_31 (by decide) ?_
      refine lv_iadd hx hb dX10_joinVerses_32 ?_
      obtain ⟨q8, h7, h⟩ := Option.bind_eq_some_iff.mp h
      refine kcir [0, 1, 2, 3, 4, 5, 6, 7, 8, 9, 10] (va_runV (As := [.int i1, .int (i2 + (1 : Int32))]) (rest := [.int q6]) ⟨hx, hb, hml, hown, hts⟩ (kX10_chapterOf l D cI cC cS aD vD0 vD1 vD2 vD3 vD4 vD5 vD6 vD7 vD8 vD9 vD10 vD11 vD12 vD13 vD14 vD15 vD16 vD17 vD18 vD19 vD20 vD21 vD22 i1 (i2 + (1 : Int32)) H.size h7) (cwV 2 hts gX10_joinVerses_X10_chapterOf rfl rfl rfl (by decide +kernel) ⟨Nat.le_of_ble_eq_true rfl, Nat.le_of_ble_eq_true rfl⟩) (kpreV hK hN hP hD [0, 1, 2, 3, 4, 5, 6, 7, 8, 9, 10] rfl (by decide) 10 rfl rfl) rfl rfl hl.1 rfl (lv_room (Nat.le_of_ble_eq_true rfl)) dX10_joinVerses_33 ⟨Nat.le_refl _, Nat.le_refl _⟩) hP hD hS hA rfl (fun H locs hP hS => ?_)
      refine lv_icmp_eq (tgt := 42) hx hb dX10_joinVerses_36 (by decide) (fun g => ?_) (fun g => ?_)
      · rw [if_pos g] at h
        refine lv_aload_n hx hb dX10_joinVerses_42 rfl (lv_at hl 0 rfl) ?_
        obtain ⟨q10, h9, h⟩ := Option.bind_eq_some_iff.mp h
        refine kcvw (ws' := (wMD cC cI aD vD0 q10.1 q10.2 vD3 vD4 vD5 vD6 vD7 vD8 vD9 vD10 vD11 vD12 vD13 vD14 vD15 vD16 vD17 vD18 vD19 vD20 vD21 vD22)) [0, 1, 2, 3, 4, 5, 6, 7, 8, 9, 10] (va_runV (As := []) (rest := []) ⟨hx, hb, hml, hown, hts⟩ (kX10_record l D cI cC cS aD vD0 vD1 vD2 vD3 vD4 vD5 vD6 vD7 vD8 vD9 vD10 vD11 vD12 vD13 vD14 vD15 vD16 vD17 vD18 vD19 vD20 vD21 vD22 H.size h9) (cwV 0 hts gX10_joinVerses_X10_record rfl rfl rfl (by decide +kernel) ⟨Nat.le_of_ble_eq_true rfl, Nat.le_of_ble_eq_true rfl⟩) (kpreV hK hN hP hD [0, 1, 2, 3, 4, 5, 6, 7, 8, 9, 10] rfl (by decide) 10 rfl rfl) rfl rfl hl.1 rfl (lv_room (Nat.le_of_ble_eq_true rfl)) dX10_joinVerses_43 ⟨Nat.le_refl _, Nat.le_refl _⟩) hP hD hS hA rfl (by decide) rfl [1, 2, 3, 4, 5, 6, 7, 8, 9, 10, 11] (by decide +kernel) rfl (fun H locs hP hD hS => ?_)
        refine lv_aload_n hx hb dX10_joinVerses_46 rfl (lv_at hl 0 rfl) ?_
        refine lv_iload_n hx hb dX10_joinVerses_47 rfl (lv_at hl 1 rfl) ?_
        refine lv_iload_n hx hb dX10_joinVerses_48 rfl (lv_at hl 2 rfl) ?_
        obtain ⟨q12, h11, h⟩ := Option.bind_eq_some_iff.mp h
        refine kcir [0, 1, 2, 3, 4, 5, 6, 7, 8, 9, 10] (va_runV (As := [.int i1, .int i2]) (rest := []) ⟨hx, hb, hml, hown, hts⟩ (kX10_groupOf l D cI cC cS aD vD0 q10.1 q10.2 vD3 vD4 vD5 vD6 vD7 vD8 vD9 vD10 vD11 vD12 vD13 vD14 vD15 vD16 vD17 vD18 vD19 vD20 vD21 vD22 i1 i2 H.size h11) (cwV 2 hts gX10_joinVerses_X10_groupOf rfl rfl rfl (by decide +kernel) ⟨Nat.le_of_ble_eq_true rfl, Nat.le_of_ble_eq_true rfl⟩) (kpreV hK hN hP hD [0, 1, 2, 3, 4, 5, 6, 7, 8, 9, 10] rfl (by decide) 10 rfl rfl) rfl rfl hl.1 rfl (lv_room (Nat.le_of_ble_eq_true rfl)) dX10_joinVerses_49 ⟨Nat.le_refl _, Nat.le_refl _⟩) hP hD hS hA rfl (fun H locs hP hS => ?_)
        refine lv_istore_n (lv' := [(3, .int q12), (0, .ref aD.1), (1, .int i1), (2, .int i2)]) hx hb dX10_joinVerses_52 rfl hl (by decide) rfl (fun ls hl => ?_)
        refine lv_aload_n hx hb dX10_joinVerses_53 rfl (lv_at hl 1 rfl) ?_
        refine lv_iload_n hx hb dX10_joinVerses_54 rfl (lv_at hl 0 rfl) ?_
        refine lv_aload_n hx hb dX10_joinVerses_55 rfl (lv_at hl 1 rfl) ?_
        refine lv_iload_n hx hb dX10_joinVerses_56 rfl (lv_at hl 2 rfl) ?_
        refine lv_iload_n hx hb dX10_joinVerses_57 rfl (lv_at hl 3 rfl) ?_
        refine lv_iconst (v := (1 : Int32)) hx hb dX10_joinVerses_58 (by decide) ?_
        refine lv_iadd hx hb dX10_joinVerses_59 ?_
        obtain ⟨q14, h13, h⟩ := Option.bind_eq_some_iff.mp h
        refine kcir [0, 1, 2, 3, 4, 5, 6, 7, 8, 9, 10] (va_runV (As := [.int i1, .int (i2 + (1 : Int32))]) (rest := [.int q12, .ref aD.1]) ⟨hx, hb, hml, hown, hts⟩ (kX10_groupOf l D cI cC cS aD vD0 q10.1 q10.2 vD3 vD4 vD5 vD6 vD7 vD8 vD9 vD10 vD11 vD12 vD13 vD14 vD15 vD16 vD17 vD18 vD19 vD20 vD21 vD22 i1 (i2 + (1 : Int32)) H.size h13) (cwV 2 hts gX10_joinVerses_X10_groupOf rfl rfl rfl (by decide +kernel) ⟨Nat.le_of_ble_eq_true rfl, Nat.le_of_ble_eq_true rfl⟩) (kpreV hK hN hP hD [0, 1, 2, 3, 4, 5, 6, 7, 8, 9, 10] rfl (by decide) 10 rfl rfl) rfl rfl hl.1 rfl (lv_room (Nat.le_of_ble_eq_true rfl)) dX10_joinVerses_60 ⟨Nat.le_refl _, Nat.le_refl _⟩) hP hD hS hA rfl (fun H locs hP hS => ?_)
        obtain ⟨q16, h15, h⟩ := Option.bind_eq_some_iff.mp h
        refine kcvw (ws' := (wMD cC cI aD q16 q10.1 q10.2 vD3 vD4 vD5 vD6 vD7 vD8 vD9 vD10 vD11 vD12 vD13 vD14 vD15 vD16 vD17 vD18 vD19 vD20 vD21 vD22)) [0, 1, 2, 3, 4, 5, 6, 7, 8, 9, 10] (va_runV (As := [.int q12, .int q14]) (rest := []) ⟨hx, hb, hml, hown, hts⟩ (kX10_joinGroups l D cI cC cS aD vD0 q10.1 q10.2 vD3 vD4 vD5 vD6 vD7 vD8 vD9 vD10 vD11 vD12 vD13 vD14 vD15 vD16 vD17 vD18 vD19 vD20 vD21 vD22 q12 q14 H.size h15) (cwV 2 hts gX10_joinVerses_X10_joinGroups rfl rfl rfl (by decide +kernel) ⟨Nat.le_of_ble_eq_true rfl, Nat.le_of_ble_eq_true rfl⟩) (kpreV hK hN hP hD [0, 1, 2, 3, 4, 5, 6, 7, 8, 9, 10] rfl (by decide) 10 rfl rfl) rfl rfl hl.1 rfl (lv_room (Nat.le_of_ble_eq_true rfl)) dX10_joinVerses_63 ⟨Nat.le_refl _, Nat.le_refl _⟩) hP hD hS hA rfl (by decide) rfl [1, 2, 3, 4, 5, 6, 7, 8, 9, 10, 11] (by decide +kernel) rfl (fun H locs hP hD hS => ?_)
        refine lv_bipush (v := (60 : Int32)) hx hb dX10_joinVerses_66 (by decide) ?_
        refine lv_iload_n hx hb dX10_joinVerses_68 rfl (lv_at hl 2 rfl) ?_
        refine lv_imul hx hb dX10_joinVerses_69 ?_
        refine lv_iload_n hx hb dX10_joinVerses_70 rfl (lv_at hl 3 rfl) ?_
        refine lv_iadd hx hb dX10_joinVerses_71 ?_
        refine lv_istore (lv' := [(4, .int (((60 : Int32) * i1) + i2)), (3, .int q12), (0, .ref aD.1), (1, .int i1), (2, .int i2)]) hx hb dX10_joinVerses_72 hl (by decide) rfl (fun ls hl => ?_)
        refine lv_aload_n hx hb dX10_joinVerses_74 rfl (lv_at hl 2 rfl) ?_
        refine va_get (D := D) (ci := 10) (v := .ref aD.2.1) (C := RX10) (T := TX10) (N := 23) hx hb hts huX10 hown hK hP 0 rfl rfl 0 (by decide) (hts (.fieldLink RX10 7 "VerseColumnsModel" "row" "[I") (by decide +kernel)) (fun _ h9 => h9) rfl dX10_joinVerses_75 ?_
        refine lv_iload hx hb dX10_joinVerses_78 (lv_at hl 0 rfl) ?_
        obtain ⟨g, h⟩ := kif h
        refine va_iald hx hb hK hP 1 0 rfl rfl (kin g) dX10_joinVerses_80 ?_
        refine lv_aload_n hx hb dX10_joinVerses_81 rfl (lv_at hl 2 rfl) ?_
        refine va_get (D := D) (ci := 10) (v := .ref aD.2.1) (C := RX10) (T := TX10) (N := 23) hx hb hts huX10 hown hK hP 0 rfl rfl 0 (by decide) (hts (.fieldLink RX10 7 "VerseColumnsModel" "row" "[I") (by decide +kernel)) (fun _ h9 => h9) rfl dX10_joinVerses_82 ?_
        refine lv_iload hx hb dX10_joinVerses_85 (lv_at hl 0 rfl) ?_
        refine lv_iconst (v := (1 : Int32)) hx hb dX10_joinVerses_87 (by decide) ?_
        refine lv_iadd hx hb dX10_joinVerses_88 ?_
        obtain ⟨g, h⟩ := kif h
        refine va_iald hx hb hK hP 1 0 rfl rfl (kin g) dX10_joinVerses_89 ?_
        refine lv_iadd hx hb dX10_joinVerses_90 ?_
        refine lv_istore (lv' := [(5, .int ((q16 (((60 : Int32) * i1) + i2).toNatClampNeg) + (q16 ((((60 : Int32) * i1) + i2) + (1 : Int32)).toNatClampNeg))), (4, .int (((60 : Int32) * i1) + i2)), (3, .int q12), (0, .ref aD.1), (1, .int i1), (2, .int i2)]) hx hb dX10_joinVerses_91 hl (by decide) rfl (fun ls hl => ?_)
        refine lv_aload_n hx hb dX10_joinVerses_93 rfl (lv_at hl 3 rfl) ?_
        refine va_get (D := D) (ci := 10) (v := .ref aD.2.1) (C := RX10) (T := TX10) (N := 23) hx hb hts huX10 hown hK hP 0 rfl rfl 0 (by decide) (hts (.fieldLink RX10 7 "VerseColumnsModel" "row" "[I") (by decide +kernel)) (fun _ h9 => h9) rfl dX10_joinVerses_94 ?_
        refine lv_bipush (v := (120 : Int32)) hx hb dX10_joinVerses_97 (by decide) ?_
        refine lv_iload hx hb dX10_joinVerses_99 (lv_at hl 1 rfl) ?_
        refine lv_iadd hx hb dX10_joinVerses_101 ?_
        obtain ⟨g, h⟩ := kif h
        refine va_iald hx hb hK hP 1 0 rfl rfl (kin g) dX10_joinVerses_102 ?_
        refine lv_aload_n hx hb dX10_joinVerses_103 rfl (lv_at hl 3 rfl) ?_
        refine va_get (D := D) (ci := 10) (v := .ref aD.2.1) (C := RX10) (T := TX10) (N := 23) hx hb hts huX10 hown hK hP 0 rfl rfl 0 (by decide) (hts (.fieldLink RX10 7 "VerseColumnsModel" "row" "[I") (by decide +kernel)) (fun _ h9 => h9) rfl dX10_joinVerses_104 ?_
        refine lv_bipush (v := (120 : Int32)) hx hb dX10_joinVerses_107 (by decide) ?_
        refine lv_iload hx hb dX10_joinVerses_109 (lv_at hl 1 rfl) ?_
        refine lv_iadd hx hb dX10_joinVerses_111 ?_
        refine lv_iconst (v := (1 : Int32)) hx hb dX10_joinVerses_112 (by decide) ?_
        refine lv_iadd hx hb dX10_joinVerses_113 ?_
        obtain ⟨g, h⟩ := kif h
        refine va_iald hx hb hK hP 1 0 rfl rfl (kin g) dX10_joinVerses_114 ?_
        refine lv_iadd hx hb dX10_joinVerses_115 ?_
        refine lv_istore (lv' := [(6, .int ((q16 ((120 : Int32) + (((60 : Int32) * i1) + i2)).toNatClampNeg) + (q16 (((120 : Int32) + (((60 : Int32) * i1) + i2)) + (1 : Int32)).toNatClampNeg))), (5, .int ((q16 (((60 : Int32) * i1) + i2).toNatClampNeg) + (q16 ((((60 : Int32) * i1) + i2) + (1 : Int32)).toNatClampNeg))), (4, .int (((60 : Int32) * i1) + i2)), (3, .int q12), (0, .ref aD.1), (1, .int i1), (2, .int i2)]) hx hb dX10_joinVerses_116 hl (by decide) rfl (fun ls hl => ?_)
        refine lv_aload_n hx hb dX10_joinVerses_118 rfl (lv_at hl 4 rfl) ?_
        refine va_get (D := D) (ci := 10) (v := .ref aD.2.1) (C := RX10) (T := TX10) (N := 23) hx hb hts huX10 hown hK hP 0 rfl rfl 0 (by decide) (hts (.fieldLink RX10 7 "VerseColumnsModel" "row" "[I") (by decide +kernel)) (fun _ h9 => h9) rfl dX10_joinVerses_119 ?_
        refine lv_iload hx hb dX10_joinVerses_122 (lv_at hl 2 rfl) ?_
        refine lv_iload hx hb dX10_joinVerses_124 (lv_at hl 1 rfl) ?_
        refine lv_sipush (v := (2000 : Int32)) hx hb dX10_joinVerses_126 (by decide) ?_
        refine lv_icmp_le (tgt := 138) hx hb dX10_joinVerses_129 (by decide) (fun g => ?_) (fun g => ?_)
        · rw [if_pos g] at h
          refine lv_iload hx hb dX10_joinVerses_138 (lv_at hl 1 rfl) ?_
          exact j140 q16 q10.1 q10.2 i1 i2 q12 (((60 : Int32) * i1) + i2) ((q16 ((120 : Int32) + (((60 : Int32) * i1) + i2)).toNatClampNeg) + (q16 (((120 : Int32) + (((60 : Int32) * i1) + i2)) + (1 : Int32)).toNatClampNeg)) (((60 : Int32) * i1) + i2) ((q16 (((60 : Int32) * i1) + i2).toNatClampNeg) + (q16 ((((60 : Int32) * i1) + i2) + (1 : Int32)).toNatClampNeg)) _ _ _ h hP hD hS (lv_sub hl [4, 5, 6, 3, 2, 0] rfl)
        · rw [if_neg g] at h
          refine lv_sipush (v := (2000 : Int32)) hx hb dX10_joinVerses_132 (by decide) ?_
          refine lv_goto (tgt := 140) hx hb dX10_joinVerses_135 (by decide) ?_
          exact j140 q16 q10.1 q10.2 i1 i2 q12 (((60 : Int32) * i1) + i2) ((q16 ((120 : Int32) + (((60 : Int32) * i1) + i2)).toNatClampNeg) + (q16 (((120 : Int32) + (((60 : Int32) * i1) + i2)) + (1 : Int32)).toNatClampNeg)) (((60 : Int32) * i1) + i2) (2000 : Int32) _ _ _ h hP hD hS (lv_sub hl [4, 5, 6, 3, 2, 0] rfl)
      · rw [if_neg g] at h
        refine lv_bipush (v := (-4 : Int32)) hx hb dX10_joinVerses_39 (by decide) ?_
        obtain rfl := Option.some.inj h
        exact W.iret (v := (-4 : Int32)) hx hb hr (fun t ht hW => ⟨⟨_, (), rfl, rfl, by rw [ht]; exact hP, hD⟩, hS.F ht⟩) hS.2.2 dX10_joinVerses_41
  · rw [if_neg g] at h
    refine lv_iconst (v := (-1 : Int32)) hx hb dX10_joinVerses_9 (by decide) ?_
    obtain rfl := Option.some.inj h
    exact W.iret (v := (-1 : Int32)) hx hb hr (fun t ht hW => ⟨⟨_, (), rfl, rfl, by rw [ht]; exact hP, hD⟩, hS.F ht⟩) hS.2.2 dX10_joinVerses_10
