-- walks: ref (printed by wip/whole/gen)
set_option maxHeartbeats 8000000 in
set_option maxRecDepth 100000 in
theorem kX10_refer (l : Launch) (D : va_G) (cI cC cS : ClassId) (aD : Nat × Nat × Nat × Nat × Nat × Nat × Nat × Nat × Nat × Nat × Nat) (vD0 : (Nat → Int32)) (vD1 : (Nat → Int32)) (vD2 : Int32) (vD3 : Int32) (vD4 : (Nat → Int32)) (vD5 : Int32) (vD6 : Int32) (vD7 : Int32) (vD8 : Int32) (vD9 : Int32) (vD10 : Int32) (vD11 : (Nat → Int32)) (vD12 : (Nat → Int32)) (vD13 : Int32) (vD14 : Int32) (vD15 : (Nat → Int32)) (vD16 : Int32) (vD17 : Int32) (vD18 : Int32) (vD19 : (Nat → Int32)) (vD20 : (Nat → Int32)) (vD21 : (Nat → Int32)) (vD22 : (Nat → Int32)) (i1 : Int32) (i2 : Int32) (sz : Nat) {q : Int32 × Int32 × Int32 × Int32 × Int32 × Int32} (h : pX10_refer vD0 vD3 vD4 vD5 vD6 vD7 vD13 vD14 i1 i2 = some q) : kMi l yX10_refer wsX10_refer ({ frames := 3, cells := 0, slots := 0, locals := 71 } : Room) D (kTy cI cC cS) [.ref aD.1, .int i1, .int i2] (wMD cC cI aD vD0 vD1 vD2 vD3 vD4 vD5 vD6 vD7 vD8 vD9 vD10 vD11 vD12 vD13 vD14 vD15 vD16 vD17 vD18 vD19 vD20 vD21 vD22) sz q.1 (wMD cC cI aD vD0 vD1 vD2 vD3 vD4 q.2.1 q.2.2.1 q.2.2.2.1 vD8 vD9 vD10 vD11 vD12 q.2.2.2.2.1 q.2.2.2.2.2 vD15 vD16 vD17 vD18 vD19 vD20 vD21 vD22) := by
  refine Met.ofW (cc := cX10_refer) (maxL := 11) (ret := (some .int)) (by decide) rfl ?_
  intro p e s m args below meth c s₁ B hml hv
  obtain ⟨rfl, hsz, hP, hK, hD0, hN⟩ := hv
  have hx := B.exec
  have hb := B.bytes
  have hr := B.returns
  have hts := atoms_spec (ws := wsX10_refer) B.pre
  have hown : s.vm.findClass RX10 = some m.cls := findClass_of_methodNamed B.named
  have hlocks := B.notSynchronized
  subst hsz
  have hD := hD0.self (sz := s.heap.size)
  generalize hAe : va_A (wMD cC cI aD vD0 vD1 vD2 vD3 vD4 vD5 vD6 vD7 vD8 vD9 vD10 vD11 vD12 vD13 vD14 vD15 vD16 vD17 vD18 vD19 vD20 vD21 vD22) s.heap.size = A at hD ⊢
  have hA : ∀ q : Nat, s.heap.size ≤ q → A q := fun q h => by rw [← hAe]; exact Or.inr h
  have hS : va_S A s.heap s.heap [] := va_S.rf
  have huX10 : ∀ w ∈ u_ws RX10 TX10 23, w ∈ wsX10_refer := by decide +kernel
  have hl := lv_entry ([.ref aD.1, .int i1, .int i2]) (n := 11) (Nat.le_of_ble_eq_true rfl)
  rw [lg_entry_eq]
  generalize (lg_sl ([.ref aD.1, .int i1, .int i2]) ++ List.replicate (11 - (lg_sl ([.ref aD.1, .int i1, .int i2])).length) Slot.unset).toArray = ls at hl ⊢
  have hl : lv_has ls 11 [(0, .ref aD.1), (1, .int i1), (2, .int i2)] := hl
  have j274 : ∀ (c0_5 : Int32) (c0_6 : Int32) (c0_7 : Int32) (c0_13 : Int32) (c0_14 : Int32) (y2 : Int32) (y3 : Int32) (y4 : Int32) (y5 : Int32) (y6 : Int32) (t0 : Int32) (H : Heap) (locs : List Loc) (ls : Array Slot), pX10_refer_j274 vD0 vD3 vD4 c0_5 c0_6 c0_7 c0_13 c0_14 y2 y3 y4 y5 y6 t0 = some q → va_P D vwCl (wMD cC cI aD vD0 vD1 vD2 vD3 vD4 c0_5 c0_6 c0_7 vD8 vD9 vD10 vD11 vD12 c0_13 c0_14 vD15 vD16 vD17 vD18 vD19 vD20 vD21 vD22) H → va_D A (wMD cC cI aD vD0 vD1 vD2 vD3 vD4 c0_5 c0_6 c0_7 vD8 vD9 vD10 vD11 vD12 c0_13 c0_14 vD15 vD16 vD17 vD18 vD19 vD20 vD21 vD22) → va_S A s.heap H locs → lv_has ls 11 [(2, .int y2), (3, .int y3), (4, .int y4), (5, .int y5), (6, .int y6)] → W p l e ({ frames := 3, cells := 0, slots := 0, locals := 71 } : Room) s m ([.ref aD.1, .int i1, .int i2] : List Value).toArray below meth c H locs 0 0 (MQ below (va_Qi (fun (r : Int32) (_ : Unit) => r = q.1) (fun _ => kPost D (wMD cC cI aD vD0 vD1 vD2 vD3 vD4 q.2.1 q.2.2.1 q.2.2.2.1 vD8 vD9 vD10 vD11 vD12 q.2.2.2.2.1 q.2.2.2.2.2 vD15 vD16 vD17 vD18 vD19 vD20 vD21 vD22) A) A) ([.ref aD.1, .int i1, .int i2] : List Value).toArray s 0 0 A) (F0 m 274 ls [.int t0]) := by
    clear h hP hD hS hl
    intro c0_5 c0_6 c0_7 c0_13 c0_14 y2 y3 y4 y5 y6 t0 H locs ls h hP hD hS hl
    unfold pX10_refer_j274 at h
    refine lv_istore (lv' := [(8, .int t0), (2, .int y2), (3, .int y3), (4, .int y4), (5, .int y5), (6, .int y6)]) hx hb dX10_refer_274 hl (by decide) rfl (fun ls hl => ?_)
    refine lv_iload_n hx hb dX10_refer_276 rfl (lv_at hl 1 rfl) ?_
    refine lv_iconst (v := (2 : Int32)) hx hb dX10_refer_277 (by decide) ?_
    refine lv_icmp_ne (tgt := 285) hx hb dX10_refer_278 (by decide) (fun g => ?_) (fun g => ?_)
    · rw [if_neg g] at h
      refine lv_iload_n hx hb dX10_refer_285 rfl (lv_at hl 1 rfl) ?_
      refine lv_iconst (v := (3 : Int32)) hx hb dX10_refer_286 (by decide) ?_
      refine lv_icmp_ne (tgt := 295) hx hb dX10_refer_287 (by decide) (fun g => ?_) (fun g => ?_)
      · rw [if_neg g] at h
        refine lv_iload_n hx hb dX10_refer_295 rfl (lv_at hl 1 rfl) ?_
        refine lv_iconst (v := (4 : Int32)) hx hb dX10_refer_296 (by decide) ?_
        refine lv_icmp_ne (tgt := 305) hx hb dX10_refer_297 (by decide) (fun g => ?_) (fun g => ?_)
        · rw [if_neg g] at h
          refine lv_iload_n hx hb dX10_refer_305 rfl (lv_at hl 1 rfl) ?_
          refine lv_iconst (v := (5 : Int32)) hx hb dX10_refer_306 (by decide) ?_
          refine lv_icmp_ne (tgt := 315) hx hb dX10_refer_307 (by decide) (fun g => ?_) (fun g => ?_)
          · rw [if_neg g] at h
            refine lv_iload hx hb dX10_refer_315 (lv_at hl 0 rfl) ?_
            refine lv_if_eq (tgt := 324) hx hb dX10_refer_317 (by decide) (fun g => ?_) (fun g => ?_)
            · rw [if_pos g] at h
              refine lv_iconst (v := (0 : Int32)) hx hb dX10_refer_324 (by decide) ?_
              obtain rfl := Option.some.inj h
              exact W.iret (v := (0 : Int32)) hx hb hr (fun t ht hW => ⟨⟨_, (), rfl, rfl, by rw [ht]; exact hP, hD⟩, hS.F ht⟩) hS.2.2 dX10_refer_325
            · rw [if_neg g] at h
              refine lv_iconst (v := (1 : Int32)) hx hb dX10_refer_320 (by decide) ?_
              refine lv_goto (tgt := 325) hx hb dX10_refer_321 (by decide) ?_
              obtain rfl := Option.some.inj h
              exact W.iret (v := (1 : Int32)) hx hb hr (fun t ht hW => ⟨⟨_, (), rfl, rfl, by rw [ht]; exact hP, hD⟩, hS.F ht⟩) hS.2.2 dX10_refer_325
          · rw [if_pos g] at h
            refine lv_iload hx hb dX10_refer_310 (lv_at hl 5 rfl) ?_
            refine lv_goto (tgt := 325) hx hb dX10_refer_312 (by decide) ?_
            obtain rfl := Option.some.inj h
            exact W.iret (v := y6) hx hb hr (fun t ht hW => ⟨⟨_, (), rfl, rfl, by rw [ht]; exact hP, hD⟩, hS.F ht⟩) hS.2.2 dX10_refer_325
        · rw [if_pos g] at h
          refine lv_iload hx hb dX10_refer_300 (lv_at hl 4 rfl) ?_
          refine lv_goto (tgt := 325) hx hb dX10_refer_302 (by decide) ?_
          obtain rfl := Option.some.inj h
          exact W.iret (v := y5) hx hb hr (fun t ht hW => ⟨⟨_, (), rfl, rfl, by rw [ht]; exact hP, hD⟩, hS.F ht⟩) hS.2.2 dX10_refer_325
      · rw [if_pos g] at h
        refine lv_iload hx hb dX10_refer_290 (lv_at hl 3 rfl) ?_
        refine lv_goto (tgt := 325) hx hb dX10_refer_292 (by decide) ?_
        obtain rfl := Option.some.inj h
        exact W.iret (v := y4) hx hb hr (fun t ht hW => ⟨⟨_, (), rfl, rfl, by rw [ht]; exact hP, hD⟩, hS.F ht⟩) hS.2.2 dX10_refer_325
    · rw [if_pos g] at h
      refine lv_iload_n hx hb dX10_refer_281 rfl (lv_at hl 2 rfl) ?_
      refine lv_goto (tgt := 325) hx hb dX10_refer_282 (by decide) ?_
      obtain rfl := Option.some.inj h
      exact W.iret (v := y3) hx hb hr (fun t ht hW => ⟨⟨_, (), rfl, rfl, by rw [ht]; exact hP, hD⟩, hS.F ht⟩) hS.2.2 dX10_refer_325
  have L82 : ∀ (nL82 : Nat) (c0_5 : Int32) (c0_6 : Int32) (c0_7 : Int32) (c0_13 : Int32) (c0_14 : Int32) (y1 : Int32) (y2 : Int32) (y3 : Int32) (y4 : Int32) (y5 : Int32) (y6 : Int32) (y7 : Int32) (y8 : Int32) (H : Heap) (locs : List Loc) (ls : Array Slot), pX10_refer_L82 vD0 vD3 vD4 nL82 c0_5 c0_6 c0_7 c0_13 c0_14 y1 y2 y3 y4 y5 y6 y7 y8 = some q → va_P D vwCl (wMD cC cI aD vD0 vD1 vD2 vD3 vD4 c0_5 c0_6 c0_7 vD8 vD9 vD10 vD11 vD12 c0_13 c0_14 vD15 vD16 vD17 vD18 vD19 vD20 vD21 vD22) H → va_D A (wMD cC cI aD vD0 vD1 vD2 vD3 vD4 c0_5 c0_6 c0_7 vD8 vD9 vD10 vD11 vD12 c0_13 c0_14 vD15 vD16 vD17 vD18 vD19 vD20 vD21 vD22) → va_S A s.heap H locs → lv_has ls 11 [(0, .ref aD.1), (1, .int y1), (2, .int y2), (3, .int y3), (4, .int y4), (5, .int y5), (6, .int y6), (7, .int y7), (8, .int y8)] → W p l e ({ frames := 3, cells := 0, slots := 0, locals := 71 } : Room) s m ([.ref aD.1, .int i1, .int i2] : List Value).toArray below meth c H locs 0 0 (MQ below (va_Qi (fun (r : Int32) (_ : Unit) => r = q.1) (fun _ => kPost D (wMD cC cI aD vD0 vD1 vD2 vD3 vD4 q.2.1 q.2.2.1 q.2.2.2.1 vD8 vD9 vD10 vD11 vD12 q.2.2.2.2.1 q.2.2.2.2.2 vD15 vD16 vD17 vD18 vD19 vD20 vD21 vD22) A) A) ([.ref aD.1, .int i1, .int i2] : List Value).toArray s 0 0 A) (F0 m 82 ls []) := by
    clear h hP hD hS hl
    intro nL82
    induction nL82 with
    | zero => intro c0_5 c0_6 c0_7 c0_13 c0_14 y1 y2 y3 y4 y5 y6 y7 y8 H locs ls h; have h : (none : Option (Int32 × Int32 × Int32 × Int32 × Int32 × Int32)) = some q := h; cases h
    | succ nL82 ihL82 =>
      have j247 : ∀ (c0_5 : Int32) (c0_6 : Int32) (c0_7 : Int32) (c0_13 : Int32) (c0_14 : Int32) (y1 : Int32) (y2 : Int32) (y3 : Int32) (y4 : Int32) (y5 : Int32) (y6 : Int32) (y7 : Int32) (y8 : Int32) (H : Heap) (locs : List Loc) (ls : Array Slot), pX10_refer_j247 vD0 vD3 vD4 (pX10_refer_L82 vD0 vD3 vD4 nL82) c0_5 c0_6 c0_7 c0_13 c0_14 y1 y2 y3 y4 y5 y6 y7 y8 = some q → va_P D vwCl (wMD cC cI aD vD0 vD1 vD2 vD3 vD4 c0_5 c0_6 c0_7 vD8 vD9 vD10 vD11 vD12 c0_13 c0_14 vD15 vD16 vD17 vD18 vD19 vD20 vD21 vD22) H → va_D A (wMD cC cI aD vD0 vD1 vD2 vD3 vD4 c0_5 c0_6 c0_7 vD8 vD9 vD10 vD11 vD12 c0_13 c0_14 vD15 vD16 vD17 vD18 vD19 vD20 vD21 vD22) → va_S A s.heap H locs → lv_has ls 11 [(0, .ref aD.1), (1, .int y1), (2, .int y2), (3, .int y3), (4, .int y4), (5, .int y5), (6, .int y6), (7, .int y7), (8, .int y8)] → W p l e ({ frames := 3, cells := 0, slots := 0, locals := 71 } : Room) s m ([.ref aD.1, .int i1, .int i2] : List Value).toArray below meth c H locs 0 0 (MQ below (va_Qi (fun (r : Int32) (_ : Unit) => r = q.1) (fun _ => kPost D (wMD cC cI aD vD0 vD1 vD2 vD3 vD4 q.2.1 q.2.2.1 q.2.2.2.1 vD8 vD9 vD10 vD11 vD12 q.2.2.2.2.1 q.2.2.2.2.2 vD15 vD16 vD17 vD18 vD19 vD20 vD21 vD22) A) A) ([.ref aD.1, .int i1, .int i2] : List Value).toArray s 0 0 A) (F0 m 247 ls []) := by
        skip
        intro c0_5 c0_6 c0_7 c0_13 c0_14 y1 y2 y3 y4 y5 y6 y7 y8 H locs ls h hP hD hS hl
        unfold pX10_refer_j247 at h
        refine lv_iinc (v := (y8 + (1 : Int32))) (lv' := [(8, .int (y8 + (1 : Int32))), (0, .ref aD.1), (1, .int y1), (2, .int y2), (3, .int y3), (4, .int y4), (5, .int y5), (6, .int y6), (7, .int y7)]) hx hb dX10_refer_247 hl (k := 8) rfl rfl (by decide) rfl (fun ls hl => ?_)
        refine lv_goto (tgt := 82) hx hb dX10_refer_250 (by decide) ?_
        exact ihL82 c0_5 c0_6 c0_7 c0_13 c0_14 y1 y2 y3 y4 y5 y6 y7 (y8 + (1 : Int32)) _ _ _ h hP hD hS (lv_sub hl [1, 2, 3, 4, 5, 6, 7, 8, 0] rfl)
      have j245 : ∀ (c0_5 : Int32) (c0_6 : Int32) (c0_7 : Int32) (c0_13 : Int32) (c0_14 : Int32) (y1 : Int32) (y2 : Int32) (y3 : Int32) (y5 : Int32) (y6 : Int32) (y7 : Int32) (y8 : Int32) (t0 : Int32) (H : Heap) (locs : List Loc) (ls : Array Slot), pX10_refer_j245 vD0 vD3 vD4 (pX10_refer_L82 vD0 vD3 vD4 nL82) c0_5 c0_6 c0_7 c0_13 c0_14 y1 y2 y3 y5 y6 y7 y8 t0 = some q → va_P D vwCl (wMD cC cI aD vD0 vD1 vD2 vD3 vD4 c0_5 c0_6 c0_7 vD8 vD9 vD10 vD11 vD12 c0_13 c0_14 vD15 vD16 vD17 vD18 vD19 vD20 vD21 vD22) H → va_D A (wMD cC cI aD vD0 vD1 vD2 vD3 vD4 c0_5 c0_6 c0_7 vD8 vD9 vD10 vD11 vD12 c0_13 c0_14 vD15 vD16 vD17 vD18 vD19 vD20 vD21 vD22) → va_S A s.heap H locs → lv_has ls 11 [(0, .ref aD.1), (1, .int y1), (2, .int y2), (3, .int y3), (5, .int y5), (6, .int y6), (7, .int y7), (8, .int y8)] → W p l e ({ frames := 3, cells := 0, slots := 0, locals := 71 } : Room) s m ([.ref aD.1, .int i1, .int i2] : List Value).toArray below meth c H locs 0 0 (MQ below (va_Qi (fun (r : Int32) (_ : Unit) => r = q.1) (fun _ => kPost D (wMD cC cI aD vD0 vD1 vD2 vD3 vD4 q.2.1 q.2.2.1 q.2.2.2.1 vD8 vD9 vD10 vD11 vD12 q.2.2.2.2.1 q.2.2.2.2.2 vD15 vD16 vD17 vD18 vD19 vD20 vD21 vD22) A) A) ([.ref aD.1, .int i1, .int i2] : List Value).toArray s 0 0 A) (F0 m 245 ls [.int t0]) := by
        skip
        intro c0_5 c0_6 c0_7 c0_13 c0_14 y1 y2 y3 y5 y6 y7 y8 t0 H locs ls h hP hD hS hl
        unfold pX10_refer_j245 at h
        refine lv_istore (lv' := [(4, .int t0), (0, .ref aD.1), (1, .int y1), (2, .int y2), (3, .int y3), (5, .int y5), (6, .int y6), (7, .int y7), (8, .int y8)]) hx hb dX10_refer_245 hl (by decide) rfl (fun ls hl => ?_)
        exact j247 c0_5 c0_6 c0_7 c0_13 c0_14 y1 y2 y3 t0 y5 y6 y7 y8 _ _ _ h hP hD hS (lv_sub hl [1, 2, 3, 4, 0, 5, 6, 7, 8] rfl)
      have j206 : ∀ (c0_5 : Int32) (c0_6 : Int32) (c0_7 : Int32) (c0_13 : Int32) (c0_14 : Int32) (y1 : Int32) (y2 : Int32) (y4 : Int32) (y5 : Int32) (y6 : Int32) (y7 : Int32) (y8 : Int32) (t0 : Int32) (H : Heap) (locs : List Loc) (ls : Array Slot), pX10_refer_j206 vD0 vD3 vD4 (pX10_refer_L82 vD0 vD3 vD4 nL82) c0_5 c0_6 c0_7 c0_13 c0_14 y1 y2 y4 y5 y6 y7 y8 t0 = some q → va_P D vwCl (wMD cC cI aD vD0 vD1 vD2 vD3 vD4 c0_5 c0_6 c0_7 vD8 vD9 vD10 vD11 vD12 c0_13 c0_14 vD15 vD16 vD17 vD18 vD19 vD20 vD21 vD22) H → va_D A (wMD cC cI aD vD0 vD1 vD2 vD3 vD4 c0_5 c0_6 c0_7 vD8 vD9 vD10 vD11 vD12 c0_13 c0_14 vD15 vD16 vD17 vD18 vD19 vD20 vD21 vD22) → va_S A s.heap H locs → lv_has ls 11 [(0, .ref aD.1), (1, .int y1), (2, .int y2), (4, .int y4), (5, .int y5), (6, .int y6), (7, .int y7), (8, .int y8)] → W p l e ({ frames := 3, cells := 0, slots := 0, locals := 71 } : Room) s m ([.ref aD.1, .int i1, .int i2] : List Value).toArray below meth c H locs 0 0 (MQ below (va_Qi (fun (r : Int32) (_ : Unit) => r = q.1) (fun _ => kPost D (wMD cC cI aD vD0 vD1 vD2 vD3 vD4 q.2.1 q.2.2.1 q.2.2.2.1 vD8 vD9 vD10 vD11 vD12 q.2.2.2.2.1 q.2.2.2.2.2 vD15 vD16 vD17 vD18 vD19 vD20 vD21 vD22) A) A) ([.ref aD.1, .int i1, .int i2] : List Value).toArray s 0 0 A) (F0 m 206 ls [.int t0]) := by
        skip
        intro c0_5 c0_6 c0_7 c0_13 c0_14 y1 y2 y4 y5 y6 y7 y8 t0 H locs ls h hP hD hS hl
        unfold pX10_refer_j206 at h
        refine lv_istore_n (lv' := [(3, .int t0), (0, .ref aD.1), (1, .int y1), (2, .int y2), (4, .int y4), (5, .int y5), (6, .int y6), (7, .int y7), (8, .int y8)]) hx hb dX10_refer_206 rfl hl (by decide) rfl (fun ls hl => ?_)
        refine lv_aload_n hx hb dX10_refer_207 rfl (lv_at hl 1 rfl) ?_
        refine lv_iload hx hb dX10_refer_208 (lv_at hl 8 rfl) ?_
        refine lv_iconst (v := (1 : Int32)) hx hb dX10_refer_210 (by decide) ?_
        refine lv_iload_n hx hb dX10_refer_211 rfl (lv_at hl 2 rfl) ?_
        refine lv_isub hx hb dX10_refer_212 ?_
        obtain ⟨q18, h17, h⟩ := Option.bind_eq_some_iff.mp h
        refine kcir [0, 1, 2, 3, 4, 5, 6, 7, 8, 9, 10] (va_runV (As := [.int y8, .int ((1 : Int32) - y1)]) (rest := []) ⟨hx, hb, hml, hown, hts⟩ (kX10_has l D cI cC cS aD vD0 vD1 vD2 vD3 vD4 c0_5 c0_6 c0_7 vD8 vD9 vD10 vD11 vD12 c0_13 c0_14 vD15 vD16 vD17 vD18 vD19 vD20 vD21 vD22 y8 ((1 : Int32) - y1) H.size h17) (cwV 2 hts gX10_refer_X10_has rfl rfl rfl (by decide +kernel) ⟨Nat.le_of_ble_eq_true rfl, Nat.le_of_ble_eq_true rfl⟩) (kpreV hK hN hP hD [0, 1, 2, 3, 4, 5, 6, 7, 8, 9, 10] rfl (by decide) 10 rfl rfl) rfl rfl hl.1 rfl (lv_room (Nat.le_of_ble_eq_true rfl)) dX10_refer_213 ⟨Nat.le_refl _, Nat.le_refl _⟩) hP hD hS hA rfl (fun H locs hP hS => ?_)
        refine lv_if_le (tgt := 243) hx hb dX10_refer_216 (by decide) (fun g => ?_) (fun g => ?_)
        · rw [if_pos g] at h
          refine lv_iload hx hb dX10_refer_243 (lv_at hl 4 rfl) ?_
          exact j245 c0_5 c0_6 c0_7 c0_13 c0_14 y1 y2 t0 y5 y6 y7 y8 y4 _ _ _ h hP hD hS (lv_sub hl [1, 2, 3, 0, 5, 6, 7, 8] rfl)
        · rw [if_neg g] at h
          refine lv_aload_n hx hb dX10_refer_219 rfl (lv_at hl 1 rfl) ?_
          refine lv_iload hx hb dX10_refer_220 (lv_at hl 8 rfl) ?_
          refine lv_iconst (v := (1 : Int32)) hx hb dX10_refer_222 (by decide) ?_
          refine lv_iload_n hx hb dX10_refer_223 rfl (lv_at hl 2 rfl) ?_
          refine lv_isub hx hb dX10_refer_224 ?_
          obtain ⟨q20, h19, h⟩ := Option.bind_eq_some_iff.mp h
          refine kcir [0, 1, 2, 3, 4, 5, 6, 7, 8, 9, 10] (va_runV (As := [.int y8, .int ((1 : Int32) - y1)]) (rest := []) ⟨hx, hb, hml, hown, hts⟩ (kX10_firstIn l D cI cC cS aD vD0 vD1 vD2 vD3 vD4 c0_5 c0_6 c0_7 vD8 vD9 vD10 vD11 vD12 c0_13 c0_14 vD15 vD16 vD17 vD18 vD19 vD20 vD21 vD22 y8 ((1 : Int32) - y1) H.size h19) (cwV 2 hts gX10_refer_X10_firstIn rfl rfl rfl (by decide +kernel) ⟨Nat.le_of_ble_eq_true rfl, Nat.le_of_ble_eq_true rfl⟩) (kpreV hK hN hP hD [0, 1, 2, 3, 4, 5, 6, 7, 8, 9, 10] rfl (by decide) 10 rfl rfl) rfl rfl hl.1 rfl (lv_room (Nat.le_of_ble_eq_true rfl)) dX10_refer_225 ⟨Nat.le_refl _, Nat.le_refl _⟩) hP hD hS hA rfl (fun H locs hP hS => ?_)
          refine lv_aload_n hx hb dX10_refer_228 rfl (lv_at hl 1 rfl) ?_
          refine lv_iload hx hb dX10_refer_229 (lv_at hl 8 rfl) ?_
          refine lv_iconst (v := (1 : Int32)) hx hb dX10_refer_231 (by decide) ?_
          refine lv_iload_n hx hb dX10_refer_232 rfl (lv_at hl 2 rfl) ?_
          refine lv_isub hx hb dX10_refer_233 ?_
          obtain ⟨q22, h21, h⟩ := Option.bind_eq_some_iff.mp h
          refine kcir [0, 1, 2, 3, 4, 5, 6, 7, 8, 9, 10] (va_runV (As := [.int y8, .int ((1 : Int32) - y1)]) (rest := [.int q20]) ⟨hx, hb, hml, hown, hts⟩ (kX10_has l D cI cC cS aD vD0 vD1 vD2 vD3 vD4 c0_5 c0_6 c0_7 vD8 vD9 vD10 vD11 vD12 c0_13 c0_14 vD15 vD16 vD17 vD18 vD19 vD20 vD21 vD22 y8 ((1 : Int32) - y1) H.size h21) (cwV 2 hts gX10_refer_X10_has rfl rfl rfl (by decide +kernel) ⟨Nat.le_of_ble_eq_true rfl, Nat.le_of_ble_eq_true rfl⟩) (kpreV hK hN hP hD [0, 1, 2, 3, 4, 5, 6, 7, 8, 9, 10] rfl (by decide) 10 rfl rfl) rfl rfl hl.1 rfl (lv_room (Nat.le_of_ble_eq_true rfl)) dX10_refer_234 ⟨Nat.le_refl _, Nat.le_refl _⟩) hP hD hS hA rfl (fun H locs hP hS => ?_)
          refine lv_iadd hx hb dX10_refer_237 ?_
          refine lv_iconst (v := (1 : Int32)) hx hb dX10_refer_238 (by decide) ?_
          refine lv_isub hx hb dX10_refer_239 ?_
          refine lv_goto (tgt := 245) hx hb dX10_refer_240 (by decide) ?_
          exact j245 c0_5 c0_6 c0_7 c0_13 c0_14 y1 y2 t0 y5 y6 y7 y8 ((q20 + q22) - (1 : Int32)) _ _ _ h hP hD hS (lv_sub hl [1, 2, 3, 0, 5, 6, 7, 8] rfl)
      have j205 : ∀ (c0_5 : Int32) (c0_6 : Int32) (c0_7 : Int32) (c0_13 : Int32) (c0_14 : Int32) (y1 : Int32) (y2 : Int32) (y3 : Int32) (y4 : Int32) (y5 : Int32) (y6 : Int32) (y7 : Int32) (y8 : Int32) (H : Heap) (locs : List Loc) (ls : Array Slot), pX10_refer_j205 vD0 vD3 vD4 (pX10_refer_L82 vD0 vD3 vD4 nL82) c0_5 c0_6 c0_7 c0_13 c0_14 y1 y2 y3 y4 y5 y6 y7 y8 = some q → va_P D vwCl (wMD cC cI aD vD0 vD1 vD2 vD3 vD4 c0_5 c0_6 c0_7 vD8 vD9 vD10 vD11 vD12 c0_13 c0_14 vD15 vD16 vD17 vD18 vD19 vD20 vD21 vD22) H → va_D A (wMD cC cI aD vD0 vD1 vD2 vD3 vD4 c0_5 c0_6 c0_7 vD8 vD9 vD10 vD11 vD12 c0_13 c0_14 vD15 vD16 vD17 vD18 vD19 vD20 vD21 vD22) → va_S A s.heap H locs → lv_has ls 11 [(0, .ref aD.1), (1, .int y1), (2, .int y2), (3, .int y3), (4, .int y4), (5, .int y5), (6, .int y6), (7, .int y7), (8, .int y8)] → W p l e ({ frames := 3, cells := 0, slots := 0, locals := 71 } : Room) s m ([.ref aD.1, .int i1, .int i2] : List Value).toArray below meth c H locs 0 0 (MQ below (va_Qi (fun (r : Int32) (_ : Unit) => r = q.1) (fun _ => kPost D (wMD cC cI aD vD0 vD1 vD2 vD3 vD4 q.2.1 q.2.2.1 q.2.2.2.1 vD8 vD9 vD10 vD11 vD12 q.2.2.2.2.1 q.2.2.2.2.2 vD15 vD16 vD17 vD18 vD19 vD20 vD21 vD22) A) A) ([.ref aD.1, .int i1, .int i2] : List Value).toArray s 0 0 A) (F0 m 205 ls []) := by
        skip
        intro c0_5 c0_6 c0_7 c0_13 c0_14 y1 y2 y3 y4 y5 y6 y7 y8 H locs ls h hP hD hS hl
        unfold pX10_refer_j205 at h
        refine lv_iload_n hx hb dX10_refer_205 rfl (lv_at hl 3 rfl) ?_
        exact j206 c0_5 c0_6 c0_7 c0_13 c0_14 y1 y2 y4 y5 y6 y7 y8 y3 _ _ _ h hP hD hS (lv_sub hl [0, 1, 2, 4, 5, 6, 7, 8] rfl)
      have j141 : ∀ (c0_5 : Int32) (c0_6 : Int32) (c0_7 : Int32) (c0_13 : Int32) (c0_14 : Int32) (y1 : Int32) (y2 : Int32) (y3 : Int32) (y4 : Int32) (y5 : Int32) (y6 : Int32) (y7 : Int32) (y8 : Int32) (t0 : Int32) (H : Heap) (locs : List Loc) (ls : Array Slot), pX10_refer_j141 vD0 vD3 vD4 (pX10_refer_L82 vD0 vD3 vD4 nL82) c0_5 c0_6 c0_7 c0_13 c0_14 y1 y2 y3 y4 y5 y6 y7 y8 t0 = some q → va_P D vwCl (wMD cC cI aD vD0 vD1 vD2 vD3 vD4 c0_5 c0_6 c0_7 vD8 vD9 vD10 vD11 vD12 c0_13 c0_14 vD15 vD16 vD17 vD18 vD19 vD20 vD21 vD22) H → va_D A (wMD cC cI aD vD0 vD1 vD2 vD3 vD4 c0_5 c0_6 c0_7 vD8 vD9 vD10 vD11 vD12 c0_13 c0_14 vD15 vD16 vD17 vD18 vD19 vD20 vD21 vD22) → va_S A s.heap H locs → lv_has ls 11 [(0, .ref aD.1), (1, .int y1), (2, .int y2), (3, .int y3), (4, .int y4), (5, .int y5), (6, .int y6), (7, .int y7), (8, .int y8)] → W p l e ({ frames := 3, cells := 0, slots := 0, locals := 71 } : Room) s m ([.ref aD.1, .int i1, .int i2] : List Value).toArray below meth c H locs 0 0 (MQ below (va_Qi (fun (r : Int32) (_ : Unit) => r = q.1) (fun _ => kPost D (wMD cC cI aD vD0 vD1 vD2 vD3 vD4 q.2.1 q.2.2.1 q.2.2.2.1 vD8 vD9 vD10 vD11 vD12 q.2.2.2.2.1 q.2.2.2.2.2 vD15 vD16 vD17 vD18 vD19 vD20 vD21 vD22) A) A) ([.ref aD.1, .int i1, .int i2] : List Value).toArray s 0 0 A) (F0 m 141 ls [.int t0]) := by
        skip
        intro c0_5 c0_6 c0_7 c0_13 c0_14 y1 y2 y3 y4 y5 y6 y7 y8 t0 H locs ls h hP hD hS hl
        unfold pX10_refer_j141 at h
        refine lv_istore (lv' := [(10, .int t0), (0, .ref aD.1), (1, .int y1), (2, .int y2), (3, .int y3), (4, .int y4), (5, .int y5), (6, .int y6), (7, .int y7), (8, .int y8)]) hx hb dX10_refer_141 hl (by decide) rfl (fun ls hl => ?_)
        refine lv_iload hx hb dX10_refer_143 (lv_at hl 0 rfl) ?_
        refine lv_if_eq (tgt := 247) hx hb dX10_refer_145 (by decide) (fun g => ?_) (fun g => ?_)
        · rw [if_pos g] at h
          exact j247 c0_5 c0_6 c0_7 c0_13 c0_14 y1 y2 y3 y4 y5 y6 y7 y8 _ _ _ h hP hD hS (lv_sub hl [1, 2, 3, 4, 5, 6, 7, 8, 9] rfl)
        · rw [if_neg g] at h
          refine lv_iinc (v := (y5 + (1 : Int32))) (lv' := [(5, .int (y5 + (1 : Int32))), (10, .int t0), (0, .ref aD.1), (1, .int y1), (2, .int y2), (3, .int y3), (4, .int y4), (6, .int y6), (7, .int y7), (8, .int y8)]) hx hb dX10_refer_148 hl (k := 6) rfl rfl (by decide) rfl (fun ls hl => ?_)
          refine lv_iload hx hb dX10_refer_151 (lv_at hl 8 rfl) ?_
          refine lv_aload_n hx hb dX10_refer_153 rfl (lv_at hl 2 rfl) ?_
          refine lv_iload hx hb dX10_refer_154 (lv_at hl 9 rfl) ?_
          refine lv_iload_n hx hb dX10_refer_156 rfl (lv_at hl 3 rfl) ?_
          obtain ⟨q14, h13, h⟩ := Option.bind_eq_some_iff.mp h
          refine kcir [0, 1, 2, 3, 4, 5, 6, 7, 8, 9, 10] (va_runV (As := [.int y8, .int y1]) (rest := [.int y7]) ⟨hx, hb, hml, hown, hts⟩ (kX10_has l D cI cC cS aD vD0 vD1 vD2 vD3 vD4 c0_5 c0_6 c0_7 vD8 vD9 vD10 vD11 vD12 c0_13 c0_14 vD15 vD16 vD17 vD18 vD19 vD20 vD21 vD22 y8 y1 H.size h13) (cwV 2 hts gX10_refer_X10_has rfl rfl rfl (by decide +kernel) ⟨Nat.le_of_ble_eq_true rfl, Nat.le_of_ble_eq_true rfl⟩) (kpreV hK hN hP hD [0, 1, 2, 3, 4, 5, 6, 7, 8, 9, 10] rfl (by decide) 10 rfl rfl) rfl rfl hl.1 rfl (lv_room (Nat.le_of_ble_eq_true rfl)) dX10_refer_157 ⟨Nat.le_refl _, Nat.le_refl _⟩) hP hD hS hA rfl (fun H locs hP hS => ?_)
          refine lv_iadd hx hb dX10_refer_160 ?_
          refine lv_istore (lv' := [(7, .int (y7 + q14)), (5, .int (y5 + (1 : Int32))), (10, .int t0), (0, .ref aD.1), (1, .int y1), (2, .int y2), (3, .int y3), (4, .int y4), (6, .int y6), (8, .int y8)]) hx hb dX10_refer_161 hl (by decide) rfl (fun ls hl => ?_)
          refine lv_iload hx hb dX10_refer_163 (lv_at hl 8 rfl) ?_
          refine lv_aload_n hx hb dX10_refer_165 rfl (lv_at hl 3 rfl) ?_
          refine lv_iload hx hb dX10_refer_166 (lv_at hl 9 rfl) ?_
          refine lv_iconst (v := (1 : Int32)) hx hb dX10_refer_168 (by decide) ?_
          refine lv_iload_n hx hb dX10_refer_169 rfl (lv_at hl 4 rfl) ?_
          refine lv_isub hx hb dX10_refer_170 ?_
          obtain ⟨q16, h15, h⟩ := Option.bind_eq_some_iff.mp h
          refine kcir [0, 1, 2, 3, 4, 5, 6, 7, 8, 9, 10] (va_runV (As := [.int y8, .int ((1 : Int32) - y1)]) (rest := [.int y6]) ⟨hx, hb, hml, hown, hts⟩ (kX10_has l D cI cC cS aD vD0 vD1 vD2 vD3 vD4 c0_5 c0_6 c0_7 vD8 vD9 vD10 vD11 vD12 c0_13 c0_14 vD15 vD16 vD17 vD18 vD19 vD20 vD21 vD22 y8 ((1 : Int32) - y1) H.size h15) (cwV 2 hts gX10_refer_X10_has rfl rfl rfl (by decide +kernel) ⟨Nat.le_of_ble_eq_true rfl, Nat.le_of_ble_eq_true rfl⟩) (kpreV hK hN hP hD [0, 1, 2, 3, 4, 5, 6, 7, 8, 9, 10] rfl (by decide) 10 rfl rfl) rfl rfl hl.1 rfl (lv_room (Nat.le_of_ble_eq_true rfl)) dX10_refer_171 ⟨Nat.le_refl _, Nat.le_refl _⟩) hP hD hS hA rfl (fun H locs hP hS => ?_)
          refine lv_iadd hx hb dX10_refer_174 ?_
          refine lv_istore (lv' := [(6, .int (y6 + q16)), (7, .int (y7 + q14)), (5, .int (y5 + (1 : Int32))), (10, .int t0), (0, .ref aD.1), (1, .int y1), (2, .int y2), (3, .int y3), (4, .int y4), (8, .int y8)]) hx hb dX10_refer_175 hl (by decide) rfl (fun ls hl => ?_)
          refine lv_iload_n hx hb dX10_refer_177 rfl (lv_at hl 7 rfl) ?_
          refine lv_if_ge (tgt := 205) hx hb dX10_refer_178 (by decide) (fun g => ?_) (fun g => ?_)
          · rw [if_pos g] at h
            exact j205 c0_5 c0_6 c0_7 c0_13 c0_14 y1 y2 y3 y4 (y5 + (1 : Int32)) (y6 + q16) (y7 + q14) y8 _ _ _ h hP hD hS (lv_sub hl [4, 5, 6, 7, 8, 2, 0, 1, 9] rfl)
          · rw [if_neg g] at h
            refine lv_aload_n hx hb dX10_refer_181 rfl (lv_at hl 4 rfl) ?_
            refine lv_iload hx hb dX10_refer_182 (lv_at hl 9 rfl) ?_
            refine lv_iconst (v := (1 : Int32)) hx hb dX10_refer_184 (by decide) ?_
            refine lv_iload_n hx hb dX10_refer_185 rfl (lv_at hl 5 rfl) ?_
            refine lv_isub hx hb dX10_refer_186 ?_
            obtain ⟨q24, h23, h⟩ := Option.bind_eq_some_iff.mp h
            refine kcir [0, 1, 2, 3, 4, 5, 6, 7, 8, 9, 10] (va_runV (As := [.int y8, .int ((1 : Int32) - y1)]) (rest := []) ⟨hx, hb, hml, hown, hts⟩ (kX10_has l D cI cC cS aD vD0 vD1 vD2 vD3 vD4 c0_5 c0_6 c0_7 vD8 vD9 vD10 vD11 vD12 c0_13 c0_14 vD15 vD16 vD17 vD18 vD19 vD20 vD21 vD22 y8 ((1 : Int32) - y1) H.size h23) (cwV 2 hts gX10_refer_X10_has rfl rfl rfl (by decide +kernel) ⟨Nat.le_of_ble_eq_true rfl, Nat.le_of_ble_eq_true rfl⟩) (kpreV hK hN hP hD [0, 1, 2, 3, 4, 5, 6, 7, 8, 9, 10] rfl (by decide) 10 rfl rfl) rfl rfl hl.1 rfl (lv_room (Nat.le_of_ble_eq_true rfl)) dX10_refer_187 ⟨Nat.le_refl _, Nat.le_refl _⟩) hP hD hS hA rfl (fun H locs hP hS => ?_)
            refine lv_if_le (tgt := 205) hx hb dX10_refer_190 (by decide) (fun g => ?_) (fun g => ?_)
            · rw [if_pos g] at h
              exact j205 c0_5 c0_6 c0_7 c0_13 c0_14 y1 y2 y3 y4 (y5 + (1 : Int32)) (y6 + q16) (y7 + q14) y8 _ _ _ h hP hD hS (lv_sub hl [4, 5, 6, 7, 8, 2, 0, 1, 9] rfl)
            · rw [if_neg g] at h
              refine lv_aload_n hx hb dX10_refer_193 rfl (lv_at hl 4 rfl) ?_
              refine lv_iload hx hb dX10_refer_194 (lv_at hl 9 rfl) ?_
              refine lv_iconst (v := (1 : Int32)) hx hb dX10_refer_196 (by decide) ?_
              refine lv_iload_n hx hb dX10_refer_197 rfl (lv_at hl 5 rfl) ?_
              refine lv_isub hx hb dX10_refer_198 ?_
              obtain ⟨q26, h25, h⟩ := Option.bind_eq_some_iff.mp h
              refine kcir [0, 1, 2, 3, 4, 5, 6, 7, 8, 9, 10] (va_runV (As := [.int y8, .int ((1 : Int32) - y1)]) (rest := []) ⟨hx, hb, hml, hown, hts⟩ (kX10_firstIn l D cI cC cS aD vD0 vD1 vD2 vD3 vD4 c0_5 c0_6 c0_7 vD8 vD9 vD10 vD11 vD12 c0_13 c0_14 vD15 vD16 vD17 vD18 vD19 vD20 vD21 vD22 y8 ((1 : Int32) - y1) H.size h25) (cwV 2 hts gX10_refer_X10_firstIn rfl rfl rfl (by decide +kernel) ⟨Nat.le_of_ble_eq_true rfl, Nat.le_of_ble_eq_true rfl⟩) (kpreV hK hN hP hD [0, 1, 2, 3, 4, 5, 6, 7, 8, 9, 10] rfl (by decide) 10 rfl rfl) rfl rfl hl.1 rfl (lv_room (Nat.le_of_ble_eq_true rfl)) dX10_refer_199 ⟨Nat.le_refl _, Nat.le_refl _⟩) hP hD hS hA rfl (fun H locs hP hS => ?_)
              refine lv_goto (tgt := 206) hx hb dX10_refer_202 (by decide) ?_
              exact j206 c0_5 c0_6 c0_7 c0_13 c0_14 y1 y2 y4 (y5 + (1 : Int32)) (y6 + q16) (y7 + q14) y8 q26 _ _ _ h hP hD hS (lv_sub hl [4, 5, 6, 8, 2, 0, 1, 9] rfl)
      have j140 : ∀ (c0_5 : Int32) (c0_6 : Int32) (c0_7 : Int32) (c0_13 : Int32) (c0_14 : Int32) (y1 : Int32) (y2 : Int32) (y3 : Int32) (y4 : Int32) (y5 : Int32) (y6 : Int32) (y7 : Int32) (y8 : Int32) (H : Heap) (locs : List Loc) (ls : Array Slot), pX10_refer_j140 vD0 vD3 vD4 (pX10_refer_L82 vD0 vD3 vD4 nL82) c0_5 c0_6 c0_7 c0_13 c0_14 y1 y2 y3 y4 y5 y6 y7 y8 = some q → va_P D vwCl (wMD cC cI aD vD0 vD1 vD2 vD3 vD4 c0_5 c0_6 c0_7 vD8 vD9 vD10 vD11 vD12 c0_13 c0_14 vD15 vD16 vD17 vD18 vD19 vD20 vD21 vD22) H → va_D A (wMD cC cI aD vD0 vD1 vD2 vD3 vD4 c0_5 c0_6 c0_7 vD8 vD9 vD10 vD11 vD12 c0_13 c0_14 vD15 vD16 vD17 vD18 vD19 vD20 vD21 vD22) → va_S A s.heap H locs → lv_has ls 11 [(0, .ref aD.1), (1, .int y1), (2, .int y2), (3, .int y3), (4, .int y4), (5, .int y5), (6, .int y6), (7, .int y7), (8, .int y8)] → W p l e ({ frames := 3, cells := 0, slots := 0, locals := 71 } : Room) s m ([.ref aD.1, .int i1, .int i2] : List Value).toArray below meth c H locs 0 0 (MQ below (va_Qi (fun (r : Int32) (_ : Unit) => r = q.1) (fun _ => kPost D (wMD cC cI aD vD0 vD1 vD2 vD3 vD4 q.2.1 q.2.2.1 q.2.2.2.1 vD8 vD9 vD10 vD11 vD12 q.2.2.2.2.1 q.2.2.2.2.2 vD15 vD16 vD17 vD18 vD19 vD20 vD21 vD22) A) A) ([.ref aD.1, .int i1, .int i2] : List Value).toArray s 0 0 A) (F0 m 140 ls []) := by
        skip
        intro c0_5 c0_6 c0_7 c0_13 c0_14 y1 y2 y3 y4 y5 y6 y7 y8 H locs ls h hP hD hS hl
        unfold pX10_refer_j140 at h
        refine lv_iconst (v := (0 : Int32)) hx hb dX10_refer_140 (by decide) ?_
        exact j141 c0_5 c0_6 c0_7 c0_13 c0_14 y1 y2 y3 y4 y5 y6 y7 y8 (0 : Int32) _ _ _ h hP hD hS (lv_sub hl [0, 1, 2, 3, 4, 5, 6, 7, 8] rfl)
      intro c0_5 c0_6 c0_7 c0_13 c0_14 y1 y2 y3 y4 y5 y6 y7 y8 H locs ls h hP hD hS hl
      have h : pX10_refer_bL82 vD0 vD3 vD4 (pX10_refer_L82 vD0 vD3 vD4 nL82) c0_5 c0_6 c0_7 c0_13 c0_14 y1 y2 y3 y4 y5 y6 y7 y8 = some q := h
      unfold pX10_refer_bL82 at h
      refine lv_iload hx hb dX10_refer_82 (lv_at hl 8 rfl) ?_
      refine lv_aload_n hx hb dX10_refer_84 rfl (lv_at hl 0 rfl) ?_
      obtain ⟨q8, h7, h⟩ := Option.bind_eq_some_iff.mp h
      refine kcir [0, 1, 2, 3, 4, 5, 6, 7, 8, 9, 10] (va_runV (As := []) (rest := [.int y8]) ⟨hx, hb, hml, hown, hts⟩ (kX10_groups l D cI cC cS aD vD0 vD1 vD2 vD3 vD4 c0_5 c0_6 c0_7 vD8 vD9 vD10 vD11 vD12 c0_13 c0_14 vD15 vD16 vD17 vD18 vD19 vD20 vD21 vD22 H.size h7) (cwV 0 hts gX10_refer_X10_groups rfl rfl rfl (by decide +kernel) ⟨Nat.le_of_ble_eq_true rfl, Nat.le_of_ble_eq_true rfl⟩) (kpreV hK hN hP hD [0, 1, 2, 3, 4, 5, 6, 7, 8, 9, 10] rfl (by decide) 10 rfl rfl) rfl rfl hl.1 rfl (lv_room (Nat.le_of_ble_eq_true rfl)) dX10_refer_85 ⟨Nat.le_refl _, Nat.le_refl _⟩) hP hD hS hA rfl (fun H locs hP hS => ?_)
      refine lv_icmp_ge (tgt := 253) hx hb dX10_refer_88 (by decide) (fun g => ?_) (fun g => ?_)
      · rw [if_pos g] at h
        refine lv_iload hx hb dX10_refer_253 (lv_at hl 7 rfl) ?_
        refine lv_aload_n hx hb dX10_refer_255 rfl (lv_at hl 0 rfl) ?_
        refine va_get (D := D) (ci := 10) (v := .int c0_14) (C := RX10) (T := TX10) (N := 23) hx hb hts huX10 hown hK hP 0 rfl rfl 14 (by decide) (hts (.fieldLink RX10 152 "VerseColumnsModel" "referTo" "I") (by decide +kernel)) (fun _ h9 => h9) rfl dX10_refer_256 ?_
        refine lv_aload_n hx hb dX10_refer_259 rfl (lv_at hl 0 rfl) ?_
        refine va_get (D := D) (ci := 10) (v := .int c0_13) (C := RX10) (T := TX10) (N := 23) hx hb hts huX10 hown hK hP 0 rfl rfl 13 (by decide) (hts (.fieldLink RX10 149 "VerseColumnsModel" "referFrom" "I") (by decide +kernel)) (fun _ h9 => h9) rfl dX10_refer_260 ?_
        refine lv_isub hx hb dX10_refer_263 ?_
        refine lv_iconst (v := (1 : Int32)) hx hb dX10_refer_264 (by decide) ?_
        refine lv_iadd hx hb dX10_refer_265 ?_
        refine lv_icmp_ne (tgt := 273) hx hb dX10_refer_266 (by decide) (fun g => ?_) (fun g => ?_)
        · rw [if_neg g] at h
          refine lv_iconst (v := (0 : Int32)) hx hb dX10_refer_273 (by decide) ?_
          exact j274 c0_5 c0_6 c0_7 c0_13 c0_14 y2 y3 y4 y5 y6 (0 : Int32) _ _ _ h hP hD hS (lv_sub hl [2, 3, 4, 5, 6] rfl)
        · rw [if_pos g] at h
          refine lv_iconst (v := (1 : Int32)) hx hb dX10_refer_269 (by decide) ?_
          refine lv_goto (tgt := 274) hx hb dX10_refer_270 (by decide) ?_
          exact j274 c0_5 c0_6 c0_7 c0_13 c0_14 y2 y3 y4 y5 y6 (1 : Int32) _ _ _ h hP hD hS (lv_sub hl [2, 3, 4, 5, 6] rfl)
      · rw [if_neg g] at h
        refine lv_aload_n hx hb dX10_refer_91 rfl (lv_at hl 0 rfl) ?_
        refine lv_iload hx hb dX10_refer_92 (lv_at hl 8 rfl) ?_
        refine lv_iload_n hx hb dX10_refer_94 rfl (lv_at hl 1 rfl) ?_
        obtain ⟨q10, h9, h⟩ := Option.bind_eq_some_iff.mp h
        refine kcir [0, 1, 2, 3, 4, 5, 6, 7, 8, 9, 10] (va_runV (As := [.int y8, .int y1]) (rest := []) ⟨hx, hb, hml, hown, hts⟩ (kX10_firstIn l D cI cC cS aD vD0 vD1 vD2 vD3 vD4 c0_5 c0_6 c0_7 vD8 vD9 vD10 vD11 vD12 c0_13 c0_14 vD15 vD16 vD17 vD18 vD19 vD20 vD21 vD22 y8 y1 H.size h9) (cwV 2 hts gX10_refer_X10_firstIn rfl rfl rfl (by decide +kernel) ⟨Nat.le_of_ble_eq_true rfl, Nat.le_of_ble_eq_true rfl⟩) (kpreV hK hN hP hD [0, 1, 2, 3, 4, 5, 6, 7, 8, 9, 10] rfl (by decide) 10 rfl rfl) rfl rfl hl.1 rfl (lv_room (Nat.le_of_ble_eq_true rfl)) dX10_refer_95 ⟨Nat.le_refl _, Nat.le_refl _⟩) hP hD hS hA rfl (fun H locs hP hS => ?_)
        refine lv_istore (lv' := [(9, .int q10), (0, .ref aD.1), (1, .int y1), (2, .int y2), (3, .int y3), (4, .int y4), (5, .int y5), (6, .int y6), (7, .int y7), (8, .int y8)]) hx hb dX10_refer_98 hl (by decide) rfl (fun ls hl => ?_)
        refine lv_aload_n hx hb dX10_refer_100 rfl (lv_at hl 1 rfl) ?_
        refine lv_iload hx hb dX10_refer_101 (lv_at hl 9 rfl) ?_
        refine lv_iload_n hx hb dX10_refer_103 rfl (lv_at hl 2 rfl) ?_
        obtain ⟨q12, h11, h⟩ := Option.bind_eq_some_iff.mp h
        refine kcir [0, 1, 2, 3, 4, 5, 6, 7, 8, 9, 10] (va_runV (As := [.int y8, .int y1]) (rest := []) ⟨hx, hb, hml, hown, hts⟩ (kX10_has l D cI cC cS aD vD0 vD1 vD2 vD3 vD4 c0_5 c0_6 c0_7 vD8 vD9 vD10 vD11 vD12 c0_13 c0_14 vD15 vD16 vD17 vD18 vD19 vD20 vD21 vD22 y8 y1 H.size h11) (cwV 2 hts gX10_refer_X10_has rfl rfl rfl (by decide +kernel) ⟨Nat.le_of_ble_eq_true rfl, Nat.le_of_ble_eq_true rfl⟩) (kpreV hK hN hP hD [0, 1, 2, 3, 4, 5, 6, 7, 8, 9, 10] rfl (by decide) 10 rfl rfl) rfl rfl hl.1 rfl (lv_room (Nat.le_of_ble_eq_true rfl)) dX10_refer_104 ⟨Nat.le_refl _, Nat.le_refl _⟩) hP hD hS hA rfl (fun H locs hP hS => ?_)
        refine lv_if_le (tgt := 140) hx hb dX10_refer_107 (by decide) (fun g => ?_) (fun g => ?_)
        · rw [if_pos g] at h
          exact j140 c0_5 c0_6 c0_7 c0_13 c0_14 y1 y2 y3 y4 y5 y6 y7 y8 _ _ _ h hP hD hS (lv_sub hl [1, 2, 3, 4, 5, 6, 7, 8, 9] rfl)
        · rw [if_neg g] at h
          refine lv_iload hx hb dX10_refer_110 (lv_at hl 0 rfl) ?_
          refine lv_aload_n hx hb dX10_refer_112 rfl (lv_at hl 1 rfl) ?_
          refine va_get (D := D) (ci := 10) (v := .int c0_14) (C := RX10) (T := TX10) (N := 23) hx hb hts huX10 hown hK hP 0 rfl rfl 14 (by decide) (hts (.fieldLink RX10 152 "VerseColumnsModel" "referTo" "I") (by decide +kernel)) (fun _ h9 => h9) rfl dX10_refer_113 ?_
          refine lv_icmp_gt (tgt := 140) hx hb dX10_refer_116 (by decide) (fun g => ?_) (fun g => ?_)
          · rw [if_pos g] at h
            exact j140 c0_5 c0_6 c0_7 c0_13 c0_14 y1 y2 y3 y4 y5 y6 y7 y8 _ _ _ h hP hD hS (lv_sub hl [1, 2, 3, 4, 5, 6, 7, 8, 9] rfl)
          · rw [if_neg g] at h
            refine lv_iload hx hb dX10_refer_119 (lv_at hl 0 rfl) ?_
            refine lv_aload_n hx hb dX10_refer_121 rfl (lv_at hl 1 rfl) ?_
            refine lv_iload hx hb dX10_refer_122 (lv_at hl 9 rfl) ?_
            refine lv_iload_n hx hb dX10_refer_124 rfl (lv_at hl 2 rfl) ?_
            obtain ⟨q28, h27, h⟩ := Option.bind_eq_some_iff.mp h
            refine kcir [0, 1, 2, 3, 4, 5, 6, 7, 8, 9, 10] (va_runV (As := [.int y8, .int y1]) (rest := [.int q10]) ⟨hx, hb, hml, hown, hts⟩ (kX10_has l D cI cC cS aD vD0 vD1 vD2 vD3 vD4 c0_5 c0_6 c0_7 vD8 vD9 vD10 vD11 vD12 c0_13 c0_14 vD15 vD16 vD17 vD18 vD19 vD20 vD21 vD22 y8 y1 H.size h27) (cwV 2 hts gX10_refer_X10_has rfl rfl rfl (by decide +kernel) ⟨Nat.le_of_ble_eq_true rfl, Nat.le_of_ble_eq_true rfl⟩) (kpreV hK hN hP hD [0, 1, 2, 3, 4, 5, 6, 7, 8, 9, 10] rfl (by decide) 10 rfl rfl) rfl rfl hl.1 rfl (lv_room (Nat.le_of_ble_eq_true rfl)) dX10_refer_125 ⟨Nat.le_refl _, Nat.le_refl _⟩) hP hD hS hA rfl (fun H locs hP hS => ?_)
            refine lv_iadd hx hb dX10_refer_128 ?_
            refine lv_aload_n hx hb dX10_refer_129 rfl (lv_at hl 1 rfl) ?_
            refine va_get (D := D) (ci := 10) (v := .int c0_13) (C := RX10) (T := TX10) (N := 23) hx hb hts huX10 hown hK hP 0 rfl rfl 13 (by decide) (hts (.fieldLink RX10 149 "VerseColumnsModel" "referFrom" "I") (by decide +kernel)) (fun _ h9 => h9) rfl dX10_refer_130 ?_
            refine lv_icmp_le (tgt := 140) hx hb dX10_refer_133 (by decide) (fun g => ?_) (fun g => ?_)
            · rw [if_pos g] at h
              exact j140 c0_5 c0_6 c0_7 c0_13 c0_14 y1 y2 y3 y4 y5 y6 y7 y8 _ _ _ h hP hD hS (lv_sub hl [1, 2, 3, 4, 5, 6, 7, 8, 9] rfl)
            · rw [if_neg g] at h
              refine lv_iconst (v := (1 : Int32)) hx hb dX10_refer_136 (by decide) ?_
              refine lv_goto (tgt := 141) hx hb dX10_refer_137 (by decide) ?_
              exact j141 c0_5 c0_6 c0_7 c0_13 c0_14 y1 y2 y3 y4 y5 y6 y7 y8 (1 : Int32) _ _ _ h hP hD hS (lv_sub hl [1, 2, 3, 4, 5, 6, 7, 8, 9] rfl)
  unfold pX10_refer at h
  refine lv_iload_n hx hb dX10_refer_0 rfl (lv_at hl 1 rfl) ?_
  obtain ⟨q2, h1, h⟩ := Option.bind_eq_some_iff.mp h
  refine kcir [] (va_runS (As := [.int i1]) (rest := []) ⟨hx, hb, hml, hown, hts⟩ (kX10_noBook l D cI cC cS i1 s.heap.size h1) (cwS 1 hts gX10_refer_X10_noBook rfl rfl rfl (by decide +kernel) ⟨Nat.le_of_ble_eq_true rfl, Nat.le_of_ble_eq_true rfl⟩) (kpre hK hN hP hD [] rfl (by decide)) rfl rfl hl.1 rfl (lv_room (Nat.le_of_ble_eq_true rfl)) dX10_refer_1 ⟨Nat.le_refl _, Nat.le_refl _⟩) hP hD hS hA rfl (fun H locs hP hS => ?_)
  refine lv_if_eq (tgt := 9) hx hb dX10_refer_4 (by decide) (fun g => ?_) (fun g => ?_)
  · rw [if_pos g] at h
    refine lv_iload_n hx hb dX10_refer_9 rfl (lv_at hl 2 rfl) ?_
    refine lv_iconst (v := (0 : Int32)) hx hb dX10_refer_10 (by decide) ?_
    refine lv_bipush (v := (6 : Int32)) hx hb dX10_refer_11 (by decide) ?_
    obtain ⟨q4, h3, h⟩ := Option.bind_eq_some_iff.mp h
    refine kcir [] (va_runS (As := [.int i2, .int (0 : Int32), .int (6 : Int32)]) (rest := []) ⟨hx, hb, hml, hown, hts⟩ (kX10_in l D cI cC cS i2 (0 : Int32) (6 : Int32) H.size h3) (cwS 3 hts gX10_refer_X10_in rfl rfl rfl (by decide +kernel) ⟨Nat.le_of_ble_eq_true rfl, Nat.le_of_ble_eq_true rfl⟩) (kpre hK hN hP hD [] rfl (by decide)) rfl rfl hl.1 rfl (lv_room (Nat.le_of_ble_eq_true rfl)) dX10_refer_13 ⟨Nat.le_refl _, Nat.le_refl _⟩) hP hD hS hA rfl (fun H locs hP hS => ?_)
    refine lv_if_ne (tgt := 22) hx hb dX10_refer_16 (by decide) (fun g => ?_) (fun g => ?_)
    · rw [if_neg g] at h
      refine lv_aload_n hx hb dX10_refer_22 rfl (lv_at hl 0 rfl) ?_
      refine lv_iload_n hx hb dX10_refer_23 rfl (lv_at hl 1 rfl) ?_
      obtain ⟨q6, h5, h⟩ := Option.bind_eq_some_iff.mp h
      refine kcvw (ws' := (wMD cC cI aD vD0 vD1 vD2 vD3 vD4 q6.1 q6.2.1 q6.2.2.1 vD8 vD9 vD10 vD11 vD12 q6.2.2.2.1 q6.2.2.2.2 vD15 vD16 vD17 vD18 vD19 vD20 vD21 vD22)) [0, 1, 2, 3, 4, 5, 6, 7, 8, 9, 10] (va_runV (As := [.int i1]) (rest := []) ⟨hx, hb, hml, hown, hts⟩ (kX10_readReference l D cI cC cS aD vD0 vD1 vD2 vD3 vD4 vD5 vD6 vD7 vD8 vD9 vD10 vD11 vD12 vD13 vD14 vD15 vD16 vD17 vD18 vD19 vD20 vD21 vD22 i1 H.size h5) (cwV 1 hts gX10_refer_X10_readReference rfl rfl rfl (by decide +kernel) ⟨Nat.le_of_ble_eq_true rfl, Nat.le_of_ble_eq_true rfl⟩) (kpreV hK hN hP hD [0, 1, 2, 3, 4, 5, 6, 7, 8, 9, 10] rfl (by decide) 10 rfl rfl) rfl rfl hl.1 rfl (lv_room (Nat.le_of_ble_eq_true rfl)) dX10_refer_24 ⟨Nat.le_refl _, Nat.le_refl _⟩) hP hD hS hA rfl (by decide) rfl [1, 2, 3, 4, 5, 6, 7, 8, 9, 10, 11] (by decide +kernel) rfl (fun H locs hP hD hS => ?_)
      refine lv_aload_n hx hb dX10_refer_27 rfl (lv_at hl 0 rfl) ?_
      refine va_get (D := D) (ci := 10) (v := .int q6.2.1) (C := RX10) (T := TX10) (N := 23) hx hb hts huX10 hown hK hP 0 rfl rfl 6 (by decide) (hts (.fieldLink RX10 109 "VerseColumnsModel" "isGood" "Z") (by decide +kernel)) (fun _ h9 => h9) rfl dX10_refer_28 ?_
      refine lv_if_ne (tgt := 42) hx hb dX10_refer_31 (by decide) (fun g => ?_) (fun g => ?_)
      · rw [if_neg g] at h
        refine lv_iload_n hx hb dX10_refer_42 rfl (lv_at hl 2 rfl) ?_
        refine lv_iconst (v := (2 : Int32)) hx hb dX10_refer_43 (by decide) ?_
        refine lv_icmp_ge (tgt := 63) hx hb dX10_refer_44 (by decide) (fun g => ?_) (fun g => ?_)
        · rw [if_pos g] at h
          refine lv_bipush (v := (-5 : Int32)) hx hb dX10_refer_63 (by decide) ?_
          refine lv_istore_n (lv' := [(3, .int (-5 : Int32)), (0, .ref aD.1), (1, .int i1), (2, .int i2)]) hx hb dX10_refer_65 rfl hl (by decide) rfl (fun ls hl => ?_)
          refine lv_bipush (v := (-5 : Int32)) hx hb dX10_refer_66 (by decide) ?_
          refine lv_istore (lv' := [(4, .int (-5 : Int32)), (3, .int (-5 : Int32)), (0, .ref aD.1), (1, .int i1), (2, .int i2)]) hx hb dX10_refer_68 hl (by decide) rfl (fun ls hl => ?_)
          refine lv_iconst (v := (0 : Int32)) hx hb dX10_refer_70 (by decide) ?_
          refine lv_istore (lv' := [(5, .int (0 : Int32)), (4, .int (-5 : Int32)), (3, .int (-5 : Int32)), (0, .ref aD.1), (1, .int i1), (2, .int i2)]) hx hb dX10_refer_71 hl (by decide) rfl (fun ls hl => ?_)
          refine lv_iconst (v := (0 : Int32)) hx hb dX10_refer_73 (by decide) ?_
          refine lv_istore (lv' := [(6, .int (0 : Int32)), (5, .int (0 : Int32)), (4, .int (-5 : Int32)), (3, .int (-5 : Int32)), (0, .ref aD.1), (1, .int i1), (2, .int i2)]) hx hb dX10_refer_74 hl (by decide) rfl (fun ls hl => ?_)
          refine lv_iconst (v := (0 : Int32)) hx hb dX10_refer_76 (by decide) ?_
          refine lv_istore (lv' := [(7, .int (0 : Int32)), (6, .int (0 : Int32)), (5, .int (0 : Int32)), (4, .int (-5 : Int32)), (3, .int (-5 : Int32)), (0, .ref aD.1), (1, .int i1), (2, .int i2)]) hx hb dX10_refer_77 hl (by decide) rfl (fun ls hl => ?_)
          refine lv_iconst (v := (0 : Int32)) hx hb dX10_refer_79 (by decide) ?_
          refine lv_istore (lv' := [(8, .int (0 : Int32)), (7, .int (0 : Int32)), (6, .int (0 : Int32)), (5, .int (0 : Int32)), (4, .int (-5 : Int32)), (3, .int (-5 : Int32)), (0, .ref aD.1), (1, .int i1), (2, .int i2)]) hx hb dX10_refer_80 hl (by decide) rfl (fun ls hl => ?_)
          exact L82 4000 q6.1 q6.2.1 q6.2.2.1 q6.2.2.2.1 q6.2.2.2.2 i1 i2 (-5 : Int32) (-5 : Int32) (0 : Int32) (0 : Int32) (0 : Int32) (0 : Int32) _ _ _ h hP hD hS (lv_sub hl [6, 7, 8, 5, 4, 3, 2, 1, 0] rfl)
        · rw [if_neg g] at h
          refine lv_iload_n hx hb dX10_refer_47 rfl (lv_at hl 2 rfl) ?_
          refine lv_if_ne (tgt := 58) hx hb dX10_refer_48 (by decide) (fun g => ?_) (fun g => ?_)
          · rw [if_neg g] at h
            refine lv_aload_n hx hb dX10_refer_58 rfl (lv_at hl 0 rfl) ?_
            refine va_get (D := D) (ci := 10) (v := .int q6.2.2.2.2) (C := RX10) (T := TX10) (N := 23) hx hb hts huX10 hown hK hP 0 rfl rfl 14 (by decide) (hts (.fieldLink RX10 152 "VerseColumnsModel" "referTo" "I") (by decide +kernel)) (fun _ h9 => h9) rfl dX10_refer_59 ?_
            obtain rfl := Option.some.inj h
            exact W.iret (v := q6.2.2.2.2) hx hb hr (fun t ht hW => ⟨⟨_, (), rfl, rfl, by rw [ht]; exact hP, hD⟩, hS.F ht⟩) hS.2.2 dX10_refer_62
          · rw [if_pos g] at h
            refine lv_aload_n hx hb dX10_refer_51 rfl (lv_at hl 0 rfl) ?_
            refine va_get (D := D) (ci := 10) (v := .int q6.2.2.2.1) (C := RX10) (T := TX10) (N := 23) hx hb hts huX10 hown hK hP 0 rfl rfl 13 (by decide) (hts (.fieldLink RX10 149 "VerseColumnsModel" "referFrom" "I") (by decide +kernel)) (fun _ h9 => h9) rfl dX10_refer_52 ?_
            refine lv_goto (tgt := 62) hx hb dX10_refer_55 (by decide) ?_
            obtain rfl := Option.some.inj h
            exact W.iret (v := q6.2.2.2.1) hx hb hr (fun t ht hW => ⟨⟨_, (), rfl, rfl, by rw [ht]; exact hP, hD⟩, hS.F ht⟩) hS.2.2 dX10_refer_62
      · rw [if_pos g] at h
        refine lv_bipush (v := (-100 : Int32)) hx hb dX10_refer_34 (by decide) ?_
        refine lv_aload_n hx hb dX10_refer_36 rfl (lv_at hl 0 rfl) ?_
        refine va_get (D := D) (ci := 10) (v := .int q6.1) (C := RX10) (T := TX10) (N := 23) hx hb hts huX10 hown hK hP 0 rfl rfl 5 (by decide) (hts (.fieldLink RX10 103 "VerseColumnsModel" "place" "I") (by decide +kernel)) (fun _ h9 => h9) rfl dX10_refer_37 ?_
        refine lv_isub hx hb dX10_refer_40 ?_
        obtain rfl := Option.some.inj h
        exact W.iret (v := ((-100 : Int32) - q6.1)) hx hb hr (fun t ht hW => ⟨⟨_, (), rfl, rfl, by rw [ht]; exact hP, hD⟩, hS.F ht⟩) hS.2.2 dX10_refer_41
    · rw [if_pos g] at h
      refine lv_bipush (v := (-2 : Int32)) hx hb dX10_refer_19 (by decide) ?_
      obtain rfl := Option.some.inj h
      exact W.iret (v := (-2 : Int32)) hx hb hr (fun t ht hW => ⟨⟨_, (), rfl, rfl, by rw [ht]; exact hP, hD⟩, hS.F ht⟩) hS.2.2 dX10_refer_21
  · rw [if_neg g] at h
    refine lv_iconst (v := (-1 : Int32)) hx hb dX10_refer_7 (by decide) ?_
    obtain rfl := Option.some.inj h
    exact W.iret (v := (-1 : Int32)) hx hb hr (fun t ht hW => ⟨⟨_, (), rfl, rfl, by rw [ht]; exact hP, hD⟩, hS.F ht⟩) hS.2.2 dX10_refer_8
