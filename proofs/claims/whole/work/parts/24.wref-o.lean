-- walks: ref (printed by wip/whole/gen)
set_option maxHeartbeats 8000000 in
set_option maxRecDepth 100000 in
theorem kX10_readItem (l : Launch) (D : va_G) (cI cC cS : ClassId) (aD : Nat × Nat × Nat × Nat × Nat × Nat × Nat × Nat × Nat × Nat × Nat) (vD0 : (Nat → Int32)) (vD1 : (Nat → Int32)) (vD2 : Int32) (vD3 : Int32) (vD4 : (Nat → Int32)) (vD5 : Int32) (vD6 : Int32) (vD7 : Int32) (vD8 : Int32) (vD9 : Int32) (vD10 : Int32) (vD11 : (Nat → Int32)) (vD12 : (Nat → Int32)) (vD13 : Int32) (vD14 : Int32) (vD15 : (Nat → Int32)) (vD16 : Int32) (vD17 : Int32) (vD18 : Int32) (vD19 : (Nat → Int32)) (vD20 : (Nat → Int32)) (vD21 : (Nat → Int32)) (vD22 : (Nat → Int32)) (sz : Nat) {q : Int32 × Int32 × Int32 × Int32 × Int32 × Int32 × (Nat → Int32) × (Nat → Int32)} (h : pX10_readItem vD3 vD4 vD5 vD6 vD8 vD9 vD10 vD11 vD12 = some q) : kMv l yX10_readItem wsX10_readItem ({ frames := 2, cells := 0, slots := 0, locals := 43 } : Room) D (kTy cI cC cS) [.ref aD.1] (wMD cC cI aD vD0 vD1 vD2 vD3 vD4 vD5 vD6 vD7 vD8 vD9 vD10 vD11 vD12 vD13 vD14 vD15 vD16 vD17 vD18 vD19 vD20 vD21 vD22) sz (wMD cC cI aD vD0 vD1 vD2 vD3 vD4 q.1 q.2.1 q.2.2.1 q.2.2.2.1 q.2.2.2.2.1 q.2.2.2.2.2.1 q.2.2.2.2.2.2.1 q.2.2.2.2.2.2.2 vD13 vD14 vD15 vD16 vD17 vD18 vD19 vD20 vD21 vD22) := by
  refine Met.ofW (cc := cX10_readItem) (maxL := 5) (ret := none) (by decide) rfl ?_
  intro p e s m args below meth c s₁ B hml hv
  obtain ⟨rfl, hsz, hP, hK, hD0, hN⟩ := hv
  have hx := B.exec
  have hb := B.bytes
  have hr := B.returns
  have hts := atoms_spec (ws := wsX10_readItem) B.pre
  have hown : s.vm.findClass RX10 = some m.cls := findClass_of_methodNamed B.named
  have hlocks := B.notSynchronized
  subst hsz
  have hD := hD0.self (sz := s.heap.size)
  generalize hAe : va_A (wMD cC cI aD vD0 vD1 vD2 vD3 vD4 vD5 vD6 vD7 vD8 vD9 vD10 vD11 vD12 vD13 vD14 vD15 vD16 vD17 vD18 vD19 vD20 vD21 vD22) s.heap.size = A at hD ⊢
  have hA : ∀ q : Nat, s.heap.size ≤ q → A q := fun q h => by rw [← hAe]; exact Or.inr h
  have hS : va_S A s.heap s.heap [] := va_S.rf
  have huX10 : ∀ w ∈ u_ws RX10 TX10 23, w ∈ wsX10_readItem := by decide +kernel
  have hl := lv_entry ([.ref aD.1]) (n := 5) (Nat.le_of_ble_eq_true rfl)
  rw [lg_entry_eq]
  generalize (lg_sl ([.ref aD.1]) ++ List.replicate (5 - (lg_sl ([.ref aD.1])).length) Slot.unset).toArray = ls at hl ⊢
  have hl : lv_has ls 5 [(0, .ref aD.1)] := hl
  have L199 : ∀ (nL199 : Nat) (c0_5 : Int32) (c0_6 : Int32) (c0_7 : Int32) (c0_8 : Int32) (c0_9 : Int32) (c0_10 : Int32) (c0_11 : (Nat → Int32)) (c0_12 : (Nat → Int32)) (y1 : Int32) (y3 : Int32) (y4 : Int32) (H : Heap) (locs : List Loc) (ls : Array Slot), pX10_readItem_L199 vD3 vD4 nL199 c0_5 c0_6 c0_7 c0_8 c0_9 c0_10 c0_11 c0_12 y1 y3 y4 = some q → va_P D vwCl (wMD cC cI aD vD0 vD1 vD2 vD3 vD4 c0_5 c0_6 c0_7 c0_8 c0_9 c0_10 c0_11 c0_12 vD13 vD14 vD15 vD16 vD17 vD18 vD19 vD20 vD21 vD22) H → va_D A (wMD cC cI aD vD0 vD1 vD2 vD3 vD4 c0_5 c0_6 c0_7 c0_8 c0_9 c0_10 c0_11 c0_12 vD13 vD14 vD15 vD16 vD17 vD18 vD19 vD20 vD21 vD22) → va_S A s.heap H locs → lv_has ls 5 [(0, .ref aD.1), (1, .int y1), (3, .int y3), (4, .int y4)] → W p l e ({ frames := 2, cells := 0, slots := 0, locals := 43 } : Room) s m ([.ref aD.1] : List Value).toArray below meth c H locs 0 0 (MQ below (va_Qv (fun (_ : Unit) => True) (fun _ => kPost D (wMD cC cI aD vD0 vD1 vD2 vD3 vD4 q.1 q.2.1 q.2.2.1 q.2.2.2.1 q.2.2.2.2.1 q.2.2.2.2.2.1 q.2.2.2.2.2.2.1 q.2.2.2.2.2.2.2 vD13 vD14 vD15 vD16 vD17 vD18 vD19 vD20 vD21 vD22) A) A) ([.ref aD.1] : List Value).toArray s 0 0 A) (F0 m 199 ls []) := by
    clear h hP hD hS hl
    intro nL199
    induction nL199 with
    | zero => intro c0_5 c0_6 c0_7 c0_8 c0_9 c0_10 c0_11 c0_12 y1 y3 y4 H locs ls h; have h : (none : Option (Int32 × Int32 × Int32 × Int32 × Int32 × Int32 × (Nat → Int32) × (Nat → Int32))) = some q := h; cases h
    | succ nL199 ihL199 =>
      have j235 : ∀ (c0_5 : Int32) (c0_6 : Int32) (c0_7 : Int32) (c0_8 : Int32) (c0_9 : Int32) (c0_10 : Int32) (c0_11 : (Nat → Int32)) (c0_12 : (Nat → Int32)) (y1 : Int32) (y3 : Int32) (y4 : Int32) (t1 : Int32) (t2 : Int32) (H : Heap) (locs : List Loc) (ls : Array Slot), pX10_readItem_j235 vD3 vD4 (pX10_readItem_L199 vD3 vD4 nL199) c0_5 c0_6 c0_7 c0_8 c0_9 c0_10 c0_11 c0_12 y1 y3 y4 t1 t2 = some q → va_P D vwCl (wMD cC cI aD vD0 vD1 vD2 vD3 vD4 c0_5 c0_6 c0_7 c0_8 c0_9 c0_10 c0_11 c0_12 vD13 vD14 vD15 vD16 vD17 vD18 vD19 vD20 vD21 vD22) H → va_D A (wMD cC cI aD vD0 vD1 vD2 vD3 vD4 c0_5 c0_6 c0_7 c0_8 c0_9 c0_10 c0_11 c0_12 vD13 vD14 vD15 vD16 vD17 vD18 vD19 vD20 vD21 vD22) → va_S A s.heap H locs → lv_has ls 5 [(0, .ref aD.1), (1, .int y1), (3, .int y3), (4, .int y4)] → W p l e ({ frames := 2, cells := 0, slots := 0, locals := 43 } : Room) s m ([.ref aD.1] : List Value).toArray below meth c H locs 0 0 (MQ below (va_Qv (fun (_ : Unit) => True) (fun _ => kPost D (wMD cC cI aD vD0 vD1 vD2 vD3 vD4 q.1 q.2.1 q.2.2.1 q.2.2.2.1 q.2.2.2.2.1 q.2.2.2.2.2.1 q.2.2.2.2.2.2.1 q.2.2.2.2.2.2.2 vD13 vD14 vD15 vD16 vD17 vD18 vD19 vD20 vD21 vD22) A) A) ([.ref aD.1] : List Value).toArray s 0 0 A) (F0 m 235 ls [.int t2, .int t1, .ref aD.1]) := by
        skip
        intro c0_5 c0_6 c0_7 c0_8 c0_9 c0_10 c0_11 c0_12 y1 y3 y4 t1 t2 H locs ls h hP hD hS hl
        unfold pX10_readItem_j235 at h
        obtain ⟨q6, h5, h⟩ := Option.bind_eq_some_iff.mp h
        refine kcvw (ws' := (wMD cC cI aD vD0 vD1 vD2 vD3 vD4 c0_5 c0_6 c0_7 q6.1 q6.2.1 q6.2.2.1 q6.2.2.2.1 q6.2.2.2.2 vD13 vD14 vD15 vD16 vD17 vD18 vD19 vD20 vD21 vD22)) [0, 1, 2, 3, 4, 5, 6, 7, 8, 9, 10] (va_runV (As := [.int t1, .int t2]) (rest := []) ⟨hx, hb, hml, hown, hts⟩ (kX10_put l D cI cC cS aD vD0 vD1 vD2 vD3 vD4 c0_5 c0_6 c0_7 c0_8 c0_9 c0_10 c0_11 c0_12 vD13 vD14 vD15 vD16 vD17 vD18 vD19 vD20 vD21 vD22 t1 t2 H.size h5) (cwV 2 hts gX10_readItem_X10_put rfl rfl rfl (by decide +kernel) ⟨Nat.le_of_ble_eq_true rfl, Nat.le_of_ble_eq_true rfl⟩) (kpreV hK hN hP hD [0, 1, 2, 3, 4, 5, 6, 7, 8, 9, 10] rfl (by decide) 10 rfl rfl) rfl rfl hl.1 rfl (lv_room (Nat.le_of_ble_eq_true rfl)) dX10_readItem_235 ⟨Nat.le_refl _, Nat.le_refl _⟩) hP hD hS hA rfl (by decide) rfl [1, 2, 3, 4, 5, 6, 7, 8, 9, 10, 11] (by decide +kernel) rfl (fun H locs hP hD hS => ?_)
        refine lv_iinc (v := (y4 + (1 : Int32))) (lv' := [(4, .int (y4 + (1 : Int32))), (0, .ref aD.1), (1, .int y1), (3, .int y3)]) hx hb dX10_readItem_238 hl (k := 3) rfl rfl (by decide) rfl (fun ls hl => ?_)
        refine lv_goto (tgt := 199) hx hb dX10_readItem_241 (by decide) ?_
        exact ihL199 c0_5 c0_6 c0_7 q6.1 q6.2.1 q6.2.2.1 q6.2.2.2.1 q6.2.2.2.2 y1 y3 (y4 + (1 : Int32)) _ _ _ h hP hD hS (lv_sub hl [1, 2, 3, 0] rfl)
      have j224 : ∀ (c0_5 : Int32) (c0_6 : Int32) (c0_7 : Int32) (c0_8 : Int32) (c0_9 : Int32) (c0_10 : Int32) (c0_11 : (Nat → Int32)) (c0_12 : (Nat → Int32)) (y1 : Int32) (y3 : Int32) (y4 : Int32) (t1 : Int32) (H : Heap) (locs : List Loc) (ls : Array Slot), pX10_readItem_j224 vD3 vD4 (pX10_readItem_L199 vD3 vD4 nL199) c0_5 c0_6 c0_7 c0_8 c0_9 c0_10 c0_11 c0_12 y1 y3 y4 t1 = some q → va_P D vwCl (wMD cC cI aD vD0 vD1 vD2 vD3 vD4 c0_5 c0_6 c0_7 c0_8 c0_9 c0_10 c0_11 c0_12 vD13 vD14 vD15 vD16 vD17 vD18 vD19 vD20 vD21 vD22) H → va_D A (wMD cC cI aD vD0 vD1 vD2 vD3 vD4 c0_5 c0_6 c0_7 c0_8 c0_9 c0_10 c0_11 c0_12 vD13 vD14 vD15 vD16 vD17 vD18 vD19 vD20 vD21 vD22) → va_S A s.heap H locs → lv_has ls 5 [(0, .ref aD.1), (1, .int y1), (3, .int y3), (4, .int y4)] → W p l e ({ frames := 2, cells := 0, slots := 0, locals := 43 } : Room) s m ([.ref aD.1] : List Value).toArray below meth c H locs 0 0 (MQ below (va_Qv (fun (_ : Unit) => True) (fun _ => kPost D (wMD cC cI aD vD0 vD1 vD2 vD3 vD4 q.1 q.2.1 q.2.2.1 q.2.2.2.1 q.2.2.2.2.1 q.2.2.2.2.2.1 q.2.2.2.2.2.2.1 q.2.2.2.2.2.2.2 vD13 vD14 vD15 vD16 vD17 vD18 vD19 vD20 vD21 vD22) A) A) ([.ref aD.1] : List Value).toArray s 0 0 A) (F0 m 224 ls [.int t1, .ref aD.1]) := by
        skip
        intro c0_5 c0_6 c0_7 c0_8 c0_9 c0_10 c0_11 c0_12 y1 y3 y4 t1 H locs ls h hP hD hS hl
        unfold pX10_readItem_j224 at h
        refine lv_iload_n hx hb dX10_readItem_224 rfl (lv_at hl 2 rfl) ?_
        refine lv_bipush (v := (60 : Int32)) hx hb dX10_readItem_225 (by decide) ?_
        refine lv_icmp_ne (tgt := 234) hx hb dX10_readItem_227 (by decide) (fun g => ?_) (fun g => ?_)
        · rw [if_neg g] at h
          refine lv_iconst (v := (1 : Int32)) hx hb dX10_readItem_234 (by decide) ?_
          exact j235 c0_5 c0_6 c0_7 c0_8 c0_9 c0_10 c0_11 c0_12 y1 y3 y4 t1 (1 : Int32) _ _ _ h hP hD hS (lv_sub hl [0, 1, 2, 3] rfl)
        · rw [if_pos g] at h
          refine lv_iconst (v := (0 : Int32)) hx hb dX10_readItem_230 (by decide) ?_
          refine lv_goto (tgt := 235) hx hb dX10_readItem_231 (by decide) ?_
          exact j235 c0_5 c0_6 c0_7 c0_8 c0_9 c0_10 c0_11 c0_12 y1 y3 y4 t1 (0 : Int32) _ _ _ h hP hD hS (lv_sub hl [0, 1, 2, 3] rfl)
      intro c0_5 c0_6 c0_7 c0_8 c0_9 c0_10 c0_11 c0_12 y1 y3 y4 H locs ls h hP hD hS hl
      have h : pX10_readItem_bL199 vD3 vD4 (pX10_readItem_L199 vD3 vD4 nL199) c0_5 c0_6 c0_7 c0_8 c0_9 c0_10 c0_11 c0_12 y1 y3 y4 = some q := h
      unfold pX10_readItem_bL199 at h
      refine lv_iload hx hb dX10_readItem_199 (lv_at hl 3 rfl) ?_
      refine lv_iload_n hx hb dX10_readItem_201 rfl (lv_at hl 1 rfl) ?_
      refine lv_icmp_ge (tgt := 244) hx hb dX10_readItem_202 (by decide) (fun g => ?_) (fun g => ?_)
      · rw [if_pos g] at h
        obtain rfl := Option.some.inj h
        exact W.vret hx hb hr (fun t ht hW => ⟨⟨(), rfl, trivial, by rw [ht]; exact hP, hD⟩, hS.F ht⟩) hS.2.2 dX10_readItem_244
      · rw [if_neg g] at h
        refine lv_aload_n hx hb dX10_readItem_205 rfl (lv_at hl 0 rfl) ?_
        refine va_get (D := D) (ci := 10) (v := .int c0_6) (C := RX10) (T := TX10) (N := 23) hx hb hts huX10 hown hK hP 0 rfl rfl 6 (by decide) (hts (.fieldLink RX10 109 "VerseColumnsModel" "isGood" "Z") (by decide +kernel)) (fun _ h9 => h9) rfl dX10_readItem_206 ?_
        refine lv_if_eq (tgt := 244) hx hb dX10_readItem_209 (by decide) (fun g => ?_) (fun g => ?_)
        · rw [if_pos g] at h
          obtain rfl := Option.some.inj h
          exact W.vret hx hb hr (fun t ht hW => ⟨⟨(), rfl, trivial, by rw [ht]; exact hP, hD⟩, hS.F ht⟩) hS.2.2 dX10_readItem_244
        · rw [if_neg g] at h
          refine lv_aload_n hx hb dX10_readItem_212 rfl (lv_at hl 0 rfl) ?_
          refine lv_iload_n hx hb dX10_readItem_213 rfl (lv_at hl 2 rfl) ?_
          refine lv_bipush (v := (62 : Int32)) hx hb dX10_readItem_214 (by decide) ?_
          refine lv_icmp_ne (tgt := 223) hx hb dX10_readItem_216 (by decide) (fun g => ?_) (fun g => ?_)
          · rw [if_neg g] at h
            refine lv_iconst (v := (1 : Int32)) hx hb dX10_readItem_223 (by decide) ?_
            exact j224 c0_5 c0_6 c0_7 c0_8 c0_9 c0_10 c0_11 c0_12 y1 y3 y4 (1 : Int32) _ _ _ h hP hD hS (lv_sub hl [0, 1, 2, 3] rfl)
          · rw [if_pos g] at h
            refine lv_iconst (v := (0 : Int32)) hx hb dX10_readItem_219 (by decide) ?_
            refine lv_goto (tgt := 224) hx hb dX10_readItem_220 (by decide) ?_
            exact j224 c0_5 c0_6 c0_7 c0_8 c0_9 c0_10 c0_11 c0_12 y1 y3 y4 (0 : Int32) _ _ _ h hP hD hS (lv_sub hl [0, 1, 2, 3] rfl)
  have j196 : ∀ (c0_5 : Int32) (c0_6 : Int32) (c0_7 : Int32) (c0_8 : Int32) (c0_9 : Int32) (c0_10 : Int32) (c0_11 : (Nat → Int32)) (c0_12 : (Nat → Int32)) (y1 : Int32) (y3 : Int32) (H : Heap) (locs : List Loc) (ls : Array Slot), pX10_readItem_j196 vD3 vD4 c0_5 c0_6 c0_7 c0_8 c0_9 c0_10 c0_11 c0_12 y1 y3 = some q → va_P D vwCl (wMD cC cI aD vD0 vD1 vD2 vD3 vD4 c0_5 c0_6 c0_7 c0_8 c0_9 c0_10 c0_11 c0_12 vD13 vD14 vD15 vD16 vD17 vD18 vD19 vD20 vD21 vD22) H → va_D A (wMD cC cI aD vD0 vD1 vD2 vD3 vD4 c0_5 c0_6 c0_7 c0_8 c0_9 c0_10 c0_11 c0_12 vD13 vD14 vD15 vD16 vD17 vD18 vD19 vD20 vD21 vD22) → va_S A s.heap H locs → lv_has ls 5 [(0, .ref aD.1), (1, .int y1), (3, .int y3)] → W p l e ({ frames := 2, cells := 0, slots := 0, locals := 43 } : Room) s m ([.ref aD.1] : List Value).toArray below meth c H locs 0 0 (MQ below (va_Qv (fun (_ : Unit) => True) (fun _ => kPost D (wMD cC cI aD vD0 vD1 vD2 vD3 vD4 q.1 q.2.1 q.2.2.1 q.2.2.2.1 q.2.2.2.2.1 q.2.2.2.2.2.1 q.2.2.2.2.2.2.1 q.2.2.2.2.2.2.2 vD13 vD14 vD15 vD16 vD17 vD18 vD19 vD20 vD21 vD22) A) A) ([.ref aD.1] : List Value).toArray s 0 0 A) (F0 m 196 ls []) := by
    clear h hP hD hS hl
    intro c0_5 c0_6 c0_7 c0_8 c0_9 c0_10 c0_11 c0_12 y1 y3 H locs ls h hP hD hS hl
    unfold pX10_readItem_j196 at h
    refine lv_iconst (v := (0 : Int32)) hx hb dX10_readItem_196 (by decide) ?_
    refine lv_istore (lv' := [(4, .int (0 : Int32)), (0, .ref aD.1), (1, .int y1), (3, .int y3)]) hx hb dX10_readItem_197 hl (by decide) rfl (fun ls hl => ?_)
    exact L199 4000 c0_5 c0_6 c0_7 c0_8 c0_9 c0_10 c0_11 c0_12 y1 y3 (0 : Int32) _ _ _ h hP hD hS (lv_sub hl [1, 2, 3, 0] rfl)
  have j178 : ∀ (c0_5 : Int32) (c0_6 : Int32) (c0_7 : Int32) (c0_8 : Int32) (c0_9 : Int32) (c0_10 : Int32) (c0_11 : (Nat → Int32)) (c0_12 : (Nat → Int32)) (y1 : Int32) (y4 : Int32) (t1 : Int32) (H : Heap) (locs : List Loc) (ls : Array Slot), pX10_readItem_j178 vD3 vD4 c0_5 c0_6 c0_7 c0_8 c0_9 c0_10 c0_11 c0_12 y1 y4 t1 = some q → va_P D vwCl (wMD cC cI aD vD0 vD1 vD2 vD3 vD4 c0_5 c0_6 c0_7 c0_8 c0_9 c0_10 c0_11 c0_12 vD13 vD14 vD15 vD16 vD17 vD18 vD19 vD20 vD21 vD22) H → va_D A (wMD cC cI aD vD0 vD1 vD2 vD3 vD4 c0_5 c0_6 c0_7 c0_8 c0_9 c0_10 c0_11 c0_12 vD13 vD14 vD15 vD16 vD17 vD18 vD19 vD20 vD21 vD22) → va_S A s.heap H locs → lv_has ls 5 [(0, .ref aD.1), (1, .int y1), (4, .int y4)] → W p l e ({ frames := 2, cells := 0, slots := 0, locals := 43 } : Room) s m ([.ref aD.1] : List Value).toArray below meth c H locs 0 0 (MQ below (va_Qv (fun (_ : Unit) => True) (fun _ => kPost D (wMD cC cI aD vD0 vD1 vD2 vD3 vD4 q.1 q.2.1 q.2.2.1 q.2.2.2.1 q.2.2.2.2.1 q.2.2.2.2.2.1 q.2.2.2.2.2.2.1 q.2.2.2.2.2.2.2 vD13 vD14 vD15 vD16 vD17 vD18 vD19 vD20 vD21 vD22) A) A) ([.ref aD.1] : List Value).toArray s 0 0 A) (F0 m 178 ls [.int t1, .ref aD.1]) := by
    clear h hP hD hS hl
    intro c0_5 c0_6 c0_7 c0_8 c0_9 c0_10 c0_11 c0_12 y1 y4 t1 H locs ls h hP hD hS hl
    unfold pX10_readItem_j178 at h
    obtain ⟨q10, h9, h⟩ := Option.bind_eq_some_iff.mp h
    refine kcvw (ws' := (wMD cC cI aD vD0 vD1 vD2 vD3 vD4 q10.1 q10.2 c0_7 c0_8 c0_9 c0_10 c0_11 c0_12 vD13 vD14 vD15 vD16 vD17 vD18 vD19 vD20 vD21 vD22)) [0, 1, 2, 3, 4, 5, 6, 7, 8, 9, 10] (va_runV (As := [.int t1]) (rest := []) ⟨hx, hb, hml, hown, hts⟩ (kX10_needs l D cI cC cS aD vD0 vD1 vD2 vD3 vD4 c0_5 c0_6 c0_7 c0_8 c0_9 c0_10 c0_11 c0_12 vD13 vD14 vD15 vD16 vD17 vD18 vD19 vD20 vD21 vD22 t1 H.size h9) (cwV 1 hts gX10_readItem_X10_needs rfl rfl rfl (by decide +kernel) ⟨Nat.le_of_ble_eq_true rfl, Nat.le_of_ble_eq_true rfl⟩) (kpreV hK hN hP hD [0, 1, 2, 3, 4, 5, 6, 7, 8, 9, 10] rfl (by decide) 10 rfl rfl) rfl rfl hl.1 rfl (lv_room (Nat.le_of_ble_eq_true rfl)) dX10_readItem_178 ⟨Nat.le_refl _, Nat.le_refl _⟩) hP hD hS hA rfl (by decide) rfl [1, 2, 3, 4, 5, 6, 7, 8, 9, 10, 11] (by decide +kernel) rfl (fun H locs hP hD hS => ?_)
    refine lv_aload_n hx hb dX10_readItem_181 rfl (lv_at hl 0 rfl) ?_
    refine va_get (D := D) (ci := 10) (v := .int q10.2) (C := RX10) (T := TX10) (N := 23) hx hb hts huX10 hown hK hP 0 rfl rfl 6 (by decide) (hts (.fieldLink RX10 109 "VerseColumnsModel" "isGood" "Z") (by decide +kernel)) (fun _ h9 => h9) rfl dX10_readItem_182 ?_
    refine lv_if_eq (tgt := 195) hx hb dX10_readItem_185 (by decide) (fun g => ?_) (fun g => ?_)
    · rw [if_pos g] at h
      obtain rfl := Option.some.inj h
      exact W.vret hx hb hr (fun t ht hW => ⟨⟨(), rfl, trivial, by rw [ht]; exact hP, hD⟩, hS.F ht⟩) hS.2.2 dX10_readItem_195
    · rw [if_neg g] at h
      refine lv_aload_n hx hb dX10_readItem_188 rfl (lv_at hl 0 rfl) ?_
      refine lv_iload_n hx hb dX10_readItem_189 rfl (lv_at hl 1 rfl) ?_
      refine lv_iload hx hb dX10_readItem_190 (lv_at hl 2 rfl) ?_
      obtain ⟨q12, h11, h⟩ := Option.bind_eq_some_iff.mp h
      refine kcvw (ws' := (wMD cC cI aD vD0 vD1 vD2 vD3 vD4 q10.1 q10.2 c0_7 q12.1 q12.2.1 q12.2.2.1 q12.2.2.2.1 q12.2.2.2.2 vD13 vD14 vD15 vD16 vD17 vD18 vD19 vD20 vD21 vD22)) [0, 1, 2, 3, 4, 5, 6, 7, 8, 9, 10] (va_runV (As := [.int y1, .int y4]) (rest := []) ⟨hx, hb, hml, hown, hts⟩ (kX10_put l D cI cC cS aD vD0 vD1 vD2 vD3 vD4 q10.1 q10.2 c0_7 c0_8 c0_9 c0_10 c0_11 c0_12 vD13 vD14 vD15 vD16 vD17 vD18 vD19 vD20 vD21 vD22 y1 y4 H.size h11) (cwV 2 hts gX10_readItem_X10_put rfl rfl rfl (by decide +kernel) ⟨Nat.le_of_ble_eq_true rfl, Nat.le_of_ble_eq_true rfl⟩) (kpreV hK hN hP hD [0, 1, 2, 3, 4, 5, 6, 7, 8, 9, 10] rfl (by decide) 10 rfl rfl) rfl rfl hl.1 rfl (lv_room (Nat.le_of_ble_eq_true rfl)) dX10_readItem_192 ⟨Nat.le_refl _, Nat.le_refl _⟩) hP hD hS hA rfl (by decide) rfl [1, 2, 3, 4, 5, 6, 7, 8, 9, 10, 11] (by decide +kernel) rfl (fun H locs hP hD hS => ?_)
      obtain rfl := Option.some.inj h
      exact W.vret hx hb hr (fun t ht hW => ⟨⟨(), rfl, trivial, by rw [ht]; exact hP, hD⟩, hS.F ht⟩) hS.2.2 dX10_readItem_195
  have j141 : ∀ (c0_5 : Int32) (c0_6 : Int32) (c0_7 : Int32) (c0_8 : Int32) (c0_9 : Int32) (c0_10 : Int32) (c0_11 : (Nat → Int32)) (c0_12 : (Nat → Int32)) (y1 : Int32) (y3 : Int32) (t1 : Int32) (H : Heap) (locs : List Loc) (ls : Array Slot), pX10_readItem_j141 vD3 vD4 c0_5 c0_6 c0_7 c0_8 c0_9 c0_10 c0_11 c0_12 y1 y3 t1 = some q → va_P D vwCl (wMD cC cI aD vD0 vD1 vD2 vD3 vD4 c0_5 c0_6 c0_7 c0_8 c0_9 c0_10 c0_11 c0_12 vD13 vD14 vD15 vD16 vD17 vD18 vD19 vD20 vD21 vD22) H → va_D A (wMD cC cI aD vD0 vD1 vD2 vD3 vD4 c0_5 c0_6 c0_7 c0_8 c0_9 c0_10 c0_11 c0_12 vD13 vD14 vD15 vD16 vD17 vD18 vD19 vD20 vD21 vD22) → va_S A s.heap H locs → lv_has ls 5 [(0, .ref aD.1), (1, .int y1), (3, .int y3)] → W p l e ({ frames := 2, cells := 0, slots := 0, locals := 43 } : Room) s m ([.ref aD.1] : List Value).toArray below meth c H locs 0 0 (MQ below (va_Qv (fun (_ : Unit) => True) (fun _ => kPost D (wMD cC cI aD vD0 vD1 vD2 vD3 vD4 q.1 q.2.1 q.2.2.1 q.2.2.2.1 q.2.2.2.2.1 q.2.2.2.2.2.1 q.2.2.2.2.2.2.1 q.2.2.2.2.2.2.2 vD13 vD14 vD15 vD16 vD17 vD18 vD19 vD20 vD21 vD22) A) A) ([.ref aD.1] : List Value).toArray s 0 0 A) (F0 m 141 ls [.int t1, .ref aD.1]) := by
    clear h hP hD hS hl
    intro c0_5 c0_6 c0_7 c0_8 c0_9 c0_10 c0_11 c0_12 y1 y3 t1 H locs ls h hP hD hS hl
    unfold pX10_readItem_j141 at h
    obtain ⟨q4, h3, h⟩ := Option.bind_eq_some_iff.mp h
    refine kcvw (ws' := (wMD cC cI aD vD0 vD1 vD2 vD3 vD4 q4.1 q4.2 c0_7 c0_8 c0_9 c0_10 c0_11 c0_12 vD13 vD14 vD15 vD16 vD17 vD18 vD19 vD20 vD21 vD22)) [0, 1, 2, 3, 4, 5, 6, 7, 8, 9, 10] (va_runV (As := [.int t1]) (rest := []) ⟨hx, hb, hml, hown, hts⟩ (kX10_needs l D cI cC cS aD vD0 vD1 vD2 vD3 vD4 c0_5 c0_6 c0_7 c0_8 c0_9 c0_10 c0_11 c0_12 vD13 vD14 vD15 vD16 vD17 vD18 vD19 vD20 vD21 vD22 t1 H.size h3) (cwV 1 hts gX10_readItem_X10_needs rfl rfl rfl (by decide +kernel) ⟨Nat.le_of_ble_eq_true rfl, Nat.le_of_ble_eq_true rfl⟩) (kpreV hK hN hP hD [0, 1, 2, 3, 4, 5, 6, 7, 8, 9, 10] rfl (by decide) 10 rfl rfl) rfl rfl hl.1 rfl (lv_room (Nat.le_of_ble_eq_true rfl)) dX10_readItem_141 ⟨Nat.le_refl _, Nat.le_refl _⟩) hP hD hS hA rfl (by decide) rfl [1, 2, 3, 4, 5, 6, 7, 8, 9, 10, 11] (by decide +kernel) rfl (fun H locs hP hD hS => ?_)
    refine lv_aload_n hx hb dX10_readItem_144 rfl (lv_at hl 0 rfl) ?_
    refine va_get (D := D) (ci := 10) (v := .int q4.2) (C := RX10) (T := TX10) (N := 23) hx hb hts huX10 hown hK hP 0 rfl rfl 6 (by decide) (hts (.fieldLink RX10 109 "VerseColumnsModel" "isGood" "Z") (by decide +kernel)) (fun _ h9 => h9) rfl dX10_readItem_145 ?_
    refine lv_if_eq (tgt := 196) hx hb dX10_readItem_148 (by decide) (fun g => ?_) (fun g => ?_)
    · rw [if_pos g] at h
      exact j196 q4.1 q4.2 c0_7 c0_8 c0_9 c0_10 c0_11 c0_12 y1 y3 _ _ _ h hP hD hS (lv_sub hl [0, 1, 2] rfl)
    · rw [if_neg g] at h
      refine lv_iload_n hx hb dX10_readItem_151 rfl (lv_at hl 2 rfl) ?_
      refine lv_bipush (v := (43 : Int32)) hx hb dX10_readItem_152 (by decide) ?_
      refine lv_icmp_ne (tgt := 196) hx hb dX10_readItem_154 (by decide) (fun g => ?_) (fun g => ?_)
      · rw [if_neg g] at h
        exact j196 q4.1 q4.2 c0_7 c0_8 c0_9 c0_10 c0_11 c0_12 y1 y3 _ _ _ h hP hD hS (lv_sub hl [0, 1, 2] rfl)
      · rw [if_pos g] at h
        refine lv_aload_n hx hb dX10_readItem_157 rfl (lv_at hl 0 rfl) ?_
        obtain ⟨q8, h7, h⟩ := Option.bind_eq_some_iff.mp h
        refine kciw (ws' := (wMD cC cI aD vD0 vD1 vD2 vD3 vD4 q8.2.1 q8.2.2.1 q8.2.2.2 c0_8 c0_9 c0_10 c0_11 c0_12 vD13 vD14 vD15 vD16 vD17 vD18 vD19 vD20 vD21 vD22)) [0, 1, 2, 3, 4, 5, 6, 7, 8, 9, 10] (va_runV (As := []) (rest := []) ⟨hx, hb, hml, hown, hts⟩ (kX10_number l D cI cC cS aD vD0 vD1 vD2 vD3 vD4 q4.1 q4.2 c0_7 c0_8 c0_9 c0_10 c0_11 c0_12 vD13 vD14 vD15 vD16 vD17 vD18 vD19 vD20 vD21 vD22 H.size h7) (cwV 0 hts gX10_readItem_X10_number rfl rfl rfl (by decide +kernel) ⟨Nat.le_of_ble_eq_true rfl, Nat.le_of_ble_eq_true rfl⟩) (kpreV hK hN hP hD [0, 1, 2, 3, 4, 5, 6, 7, 8, 9, 10] rfl (by decide) 10 rfl rfl) rfl rfl hl.1 rfl (lv_room (Nat.le_of_ble_eq_true rfl)) dX10_readItem_158 ⟨Nat.le_refl _, Nat.le_refl _⟩) hP hD hS hA rfl (by decide) rfl [1, 2, 3, 4, 5, 6, 7, 8, 9, 10, 11] (by decide +kernel) rfl (fun H locs hP hD hS => ?_)
        refine lv_istore (lv' := [(4, .int q8.1), (0, .ref aD.1), (1, .int y1), (3, .int y3)]) hx hb dX10_readItem_161 hl (by decide) rfl (fun ls hl => ?_)
        refine lv_aload_n hx hb dX10_readItem_163 rfl (lv_at hl 1 rfl) ?_
        refine lv_iload hx hb dX10_readItem_164 (lv_at hl 0 rfl) ?_
        refine lv_aload_n hx hb dX10_readItem_166 rfl (lv_at hl 1 rfl) ?_
        refine va_get (D := D) (ci := 10) (v := .int c0_9) (C := RX10) (T := TX10) (N := 23) hx hb hts huX10 hown hK hP 0 rfl rfl 9 (by decide) (hts (.fieldLink RX10 123 "VerseColumnsModel" "rightOver" "I") (by decide +kernel)) (fun _ h9 => h9) rfl dX10_readItem_167 ?_
        refine lv_icmp_gt (tgt := 177) hx hb dX10_readItem_170 (by decide) (fun g => ?_) (fun g => ?_)
        · rw [if_pos g] at h
          refine lv_iconst (v := (0 : Int32)) hx hb dX10_readItem_177 (by decide) ?_
          exact j178 q8.2.1 q8.2.2.1 q8.2.2.2 c0_8 c0_9 c0_10 c0_11 c0_12 y1 q8.1 (0 : Int32) _ _ _ h hP hD hS (lv_sub hl [1, 2, 0] rfl)
        · rw [if_neg g] at h
          refine lv_iconst (v := (1 : Int32)) hx hb dX10_readItem_173 (by decide) ?_
          refine lv_goto (tgt := 178) hx hb dX10_readItem_174 (by decide) ?_
          exact j178 q8.2.1 q8.2.2.1 q8.2.2.2 c0_8 c0_9 c0_10 c0_11 c0_12 y1 q8.1 (1 : Int32) _ _ _ h hP hD hS (lv_sub hl [1, 2, 0] rfl)
  have j140 : ∀ (c0_5 : Int32) (c0_6 : Int32) (c0_7 : Int32) (c0_8 : Int32) (c0_9 : Int32) (c0_10 : Int32) (c0_11 : (Nat → Int32)) (c0_12 : (Nat → Int32)) (y1 : Int32) (y3 : Int32) (H : Heap) (locs : List Loc) (ls : Array Slot), pX10_readItem_j140 vD3 vD4 c0_5 c0_6 c0_7 c0_8 c0_9 c0_10 c0_11 c0_12 y1 y3 = some q → va_P D vwCl (wMD cC cI aD vD0 vD1 vD2 vD3 vD4 c0_5 c0_6 c0_7 c0_8 c0_9 c0_10 c0_11 c0_12 vD13 vD14 vD15 vD16 vD17 vD18 vD19 vD20 vD21 vD22) H → va_D A (wMD cC cI aD vD0 vD1 vD2 vD3 vD4 c0_5 c0_6 c0_7 c0_8 c0_9 c0_10 c0_11 c0_12 vD13 vD14 vD15 vD16 vD17 vD18 vD19 vD20 vD21 vD22) → va_S A s.heap H locs → lv_has ls 5 [(0, .ref aD.1), (1, .int y1), (3, .int y3)] → W p l e ({ frames := 2, cells := 0, slots := 0, locals := 43 } : Room) s m ([.ref aD.1] : List Value).toArray below meth c H locs 0 0 (MQ below (va_Qv (fun (_ : Unit) => True) (fun _ => kPost D (wMD cC cI aD vD0 vD1 vD2 vD3 vD4 q.1 q.2.1 q.2.2.1 q.2.2.2.1 q.2.2.2.2.1 q.2.2.2.2.2.1 q.2.2.2.2.2.2.1 q.2.2.2.2.2.2.2 vD13 vD14 vD15 vD16 vD17 vD18 vD19 vD20 vD21 vD22) A) A) ([.ref aD.1] : List Value).toArray s 0 0 A) (F0 m 140 ls [.ref aD.1]) := by
    clear h hP hD hS hl
    intro c0_5 c0_6 c0_7 c0_8 c0_9 c0_10 c0_11 c0_12 y1 y3 H locs ls h hP hD hS hl
    unfold pX10_readItem_j140 at h
    refine lv_iconst (v := (0 : Int32)) hx hb dX10_readItem_140 (by decide) ?_
    exact j141 c0_5 c0_6 c0_7 c0_8 c0_9 c0_10 c0_11 c0_12 y1 y3 (0 : Int32) _ _ _ h hP hD hS (lv_sub hl [0, 1, 2] rfl)
  have j136 : ∀ (c0_5 : Int32) (c0_6 : Int32) (c0_7 : Int32) (c0_8 : Int32) (c0_9 : Int32) (c0_10 : Int32) (c0_11 : (Nat → Int32)) (c0_12 : (Nat → Int32)) (y1 : Int32) (y3 : Int32) (H : Heap) (locs : List Loc) (ls : Array Slot), pX10_readItem_j136 vD3 vD4 c0_5 c0_6 c0_7 c0_8 c0_9 c0_10 c0_11 c0_12 y1 y3 = some q → va_P D vwCl (wMD cC cI aD vD0 vD1 vD2 vD3 vD4 c0_5 c0_6 c0_7 c0_8 c0_9 c0_10 c0_11 c0_12 vD13 vD14 vD15 vD16 vD17 vD18 vD19 vD20 vD21 vD22) H → va_D A (wMD cC cI aD vD0 vD1 vD2 vD3 vD4 c0_5 c0_6 c0_7 c0_8 c0_9 c0_10 c0_11 c0_12 vD13 vD14 vD15 vD16 vD17 vD18 vD19 vD20 vD21 vD22) → va_S A s.heap H locs → lv_has ls 5 [(0, .ref aD.1), (1, .int y1), (3, .int y3)] → W p l e ({ frames := 2, cells := 0, slots := 0, locals := 43 } : Room) s m ([.ref aD.1] : List Value).toArray below meth c H locs 0 0 (MQ below (va_Qv (fun (_ : Unit) => True) (fun _ => kPost D (wMD cC cI aD vD0 vD1 vD2 vD3 vD4 q.1 q.2.1 q.2.2.1 q.2.2.2.1 q.2.2.2.2.1 q.2.2.2.2.2.1 q.2.2.2.2.2.2.1 q.2.2.2.2.2.2.2 vD13 vD14 vD15 vD16 vD17 vD18 vD19 vD20 vD21 vD22) A) A) ([.ref aD.1] : List Value).toArray s 0 0 A) (F0 m 136 ls [.ref aD.1]) := by
    clear h hP hD hS hl
    intro c0_5 c0_6 c0_7 c0_8 c0_9 c0_10 c0_11 c0_12 y1 y3 H locs ls h hP hD hS hl
    unfold pX10_readItem_j136 at h
    refine lv_iconst (v := (1 : Int32)) hx hb dX10_readItem_136 (by decide) ?_
    refine lv_goto (tgt := 141) hx hb dX10_readItem_137 (by decide) ?_
    exact j141 c0_5 c0_6 c0_7 c0_8 c0_9 c0_10 c0_11 c0_12 y1 y3 (1 : Int32) _ _ _ h hP hD hS (lv_sub hl [0, 1, 2] rfl)
  have j128 : ∀ (c0_5 : Int32) (c0_6 : Int32) (c0_7 : Int32) (c0_8 : Int32) (c0_9 : Int32) (c0_10 : Int32) (c0_11 : (Nat → Int32)) (c0_12 : (Nat → Int32)) (y1 : Int32) (y3 : Int32) (H : Heap) (locs : List Loc) (ls : Array Slot), pX10_readItem_j128 vD3 vD4 c0_5 c0_6 c0_7 c0_8 c0_9 c0_10 c0_11 c0_12 y1 y3 = some q → va_P D vwCl (wMD cC cI aD vD0 vD1 vD2 vD3 vD4 c0_5 c0_6 c0_7 c0_8 c0_9 c0_10 c0_11 c0_12 vD13 vD14 vD15 vD16 vD17 vD18 vD19 vD20 vD21 vD22) H → va_D A (wMD cC cI aD vD0 vD1 vD2 vD3 vD4 c0_5 c0_6 c0_7 c0_8 c0_9 c0_10 c0_11 c0_12 vD13 vD14 vD15 vD16 vD17 vD18 vD19 vD20 vD21 vD22) → va_S A s.heap H locs → lv_has ls 5 [(0, .ref aD.1), (1, .int y1), (3, .int y3)] → W p l e ({ frames := 2, cells := 0, slots := 0, locals := 43 } : Room) s m ([.ref aD.1] : List Value).toArray below meth c H locs 0 0 (MQ below (va_Qv (fun (_ : Unit) => True) (fun _ => kPost D (wMD cC cI aD vD0 vD1 vD2 vD3 vD4 q.1 q.2.1 q.2.2.1 q.2.2.2.1 q.2.2.2.2.1 q.2.2.2.2.2.1 q.2.2.2.2.2.2.1 q.2.2.2.2.2.2.2 vD13 vD14 vD15 vD16 vD17 vD18 vD19 vD20 vD21 vD22) A) A) ([.ref aD.1] : List Value).toArray s 0 0 A) (F0 m 128 ls [.ref aD.1]) := by
    clear h hP hD hS hl
    intro c0_5 c0_6 c0_7 c0_8 c0_9 c0_10 c0_11 c0_12 y1 y3 H locs ls h hP hD hS hl
    unfold pX10_readItem_j128 at h
    refine lv_iload_n hx hb dX10_readItem_128 rfl (lv_at hl 1 rfl) ?_
    refine lv_aload_n hx hb dX10_readItem_129 rfl (lv_at hl 0 rfl) ?_
    refine va_get (D := D) (ci := 10) (v := .int c0_9) (C := RX10) (T := TX10) (N := 23) hx hb hts huX10 hown hK hP 0 rfl rfl 9 (by decide) (hts (.fieldLink RX10 123 "VerseColumnsModel" "rightOver" "I") (by decide +kernel)) (fun _ h9 => h9) rfl dX10_readItem_130 ?_
    refine lv_icmp_gt (tgt := 140) hx hb dX10_readItem_133 (by decide) (fun g => ?_) (fun g => ?_)
    · rw [if_pos g] at h
      exact j140 c0_5 c0_6 c0_7 c0_8 c0_9 c0_10 c0_11 c0_12 y1 y3 _ _ _ h hP hD hS (lv_sub hl [0, 1, 2] rfl)
    · rw [if_neg g] at h
      exact j136 c0_5 c0_6 c0_7 c0_8 c0_9 c0_10 c0_11 c0_12 y1 y3 _ _ _ h hP hD hS (lv_sub hl [0, 1, 2] rfl)
  have j116 : ∀ (c0_5 : Int32) (c0_6 : Int32) (c0_7 : Int32) (c0_8 : Int32) (c0_9 : Int32) (c0_10 : Int32) (c0_11 : (Nat → Int32)) (c0_12 : (Nat → Int32)) (y1 : Int32) (y3 : Int32) (H : Heap) (locs : List Loc) (ls : Array Slot), pX10_readItem_j116 vD3 vD4 c0_5 c0_6 c0_7 c0_8 c0_9 c0_10 c0_11 c0_12 y1 y3 = some q → va_P D vwCl (wMD cC cI aD vD0 vD1 vD2 vD3 vD4 c0_5 c0_6 c0_7 c0_8 c0_9 c0_10 c0_11 c0_12 vD13 vD14 vD15 vD16 vD17 vD18 vD19 vD20 vD21 vD22) H → va_D A (wMD cC cI aD vD0 vD1 vD2 vD3 vD4 c0_5 c0_6 c0_7 c0_8 c0_9 c0_10 c0_11 c0_12 vD13 vD14 vD15 vD16 vD17 vD18 vD19 vD20 vD21 vD22) → va_S A s.heap H locs → lv_has ls 5 [(0, .ref aD.1), (1, .int y1), (3, .int y3)] → W p l e ({ frames := 2, cells := 0, slots := 0, locals := 43 } : Room) s m ([.ref aD.1] : List Value).toArray below meth c H locs 0 0 (MQ below (va_Qv (fun (_ : Unit) => True) (fun _ => kPost D (wMD cC cI aD vD0 vD1 vD2 vD3 vD4 q.1 q.2.1 q.2.2.1 q.2.2.2.1 q.2.2.2.2.1 q.2.2.2.2.2.1 q.2.2.2.2.2.2.1 q.2.2.2.2.2.2.2 vD13 vD14 vD15 vD16 vD17 vD18 vD19 vD20 vD21 vD22) A) A) ([.ref aD.1] : List Value).toArray s 0 0 A) (F0 m 116 ls [.ref aD.1]) := by
    clear h hP hD hS hl
    intro c0_5 c0_6 c0_7 c0_8 c0_9 c0_10 c0_11 c0_12 y1 y3 H locs ls h hP hD hS hl
    unfold pX10_readItem_j116 at h
    refine lv_iload_n hx hb dX10_readItem_116 rfl (lv_at hl 2 rfl) ?_
    refine lv_bipush (v := (62 : Int32)) hx hb dX10_readItem_117 (by decide) ?_
    refine lv_icmp_eq (tgt := 128) hx hb dX10_readItem_119 (by decide) (fun g => ?_) (fun g => ?_)
    · rw [if_pos g] at h
      exact j128 c0_5 c0_6 c0_7 c0_8 c0_9 c0_10 c0_11 c0_12 y1 y3 _ _ _ h hP hD hS (lv_sub hl [0, 1, 2] rfl)
    · rw [if_neg g] at h
      refine lv_iload_n hx hb dX10_readItem_122 rfl (lv_at hl 2 rfl) ?_
      refine lv_bipush (v := (61 : Int32)) hx hb dX10_readItem_123 (by decide) ?_
      refine lv_icmp_ne (tgt := 136) hx hb dX10_readItem_125 (by decide) (fun g => ?_) (fun g => ?_)
      · rw [if_neg g] at h
        exact j136 c0_5 c0_6 c0_7 c0_8 c0_9 c0_10 c0_11 c0_12 y1 y3 _ _ _ h hP hD hS (lv_sub hl [0, 1, 2] rfl)
      · rw [if_pos g] at h
        exact j128 c0_5 c0_6 c0_7 c0_8 c0_9 c0_10 c0_11 c0_12 y1 y3 _ _ _ h hP hD hS (lv_sub hl [0, 1, 2] rfl)
  have j80 : ∀ (c0_5 : Int32) (c0_6 : Int32) (c0_7 : Int32) (c0_8 : Int32) (c0_9 : Int32) (c0_10 : Int32) (c0_11 : (Nat → Int32)) (c0_12 : (Nat → Int32)) (y1 : Int32) (y2 : Int32) (t0 : Int32) (H : Heap) (locs : List Loc) (ls : Array Slot), pX10_readItem_j80 vD3 vD4 c0_5 c0_6 c0_7 c0_8 c0_9 c0_10 c0_11 c0_12 y1 y2 t0 = some q → va_P D vwCl (wMD cC cI aD vD0 vD1 vD2 vD3 vD4 c0_5 c0_6 c0_7 c0_8 c0_9 c0_10 c0_11 c0_12 vD13 vD14 vD15 vD16 vD17 vD18 vD19 vD20 vD21 vD22) H → va_D A (wMD cC cI aD vD0 vD1 vD2 vD3 vD4 c0_5 c0_6 c0_7 c0_8 c0_9 c0_10 c0_11 c0_12 vD13 vD14 vD15 vD16 vD17 vD18 vD19 vD20 vD21 vD22) → va_S A s.heap H locs → lv_has ls 5 [(0, .ref aD.1), (1, .int y1), (2, .int y2)] → W p l e ({ frames := 2, cells := 0, slots := 0, locals := 43 } : Room) s m ([.ref aD.1] : List Value).toArray below meth c H locs 0 0 (MQ below (va_Qv (fun (_ : Unit) => True) (fun _ => kPost D (wMD cC cI aD vD0 vD1 vD2 vD3 vD4 q.1 q.2.1 q.2.2.1 q.2.2.2.1 q.2.2.2.2.1 q.2.2.2.2.2.1 q.2.2.2.2.2.2.1 q.2.2.2.2.2.2.2 vD13 vD14 vD15 vD16 vD17 vD18 vD19 vD20 vD21 vD22) A) A) ([.ref aD.1] : List Value).toArray s 0 0 A) (F0 m 80 ls [.int t0]) := by
    clear h hP hD hS hl
    intro c0_5 c0_6 c0_7 c0_8 c0_9 c0_10 c0_11 c0_12 y1 y2 t0 H locs ls h hP hD hS hl
    unfold pX10_readItem_j80 at h
    refine lv_istore_n (lv' := [(3, .int t0), (0, .ref aD.1), (1, .int y1), (2, .int y2)]) hx hb dX10_readItem_80 rfl hl (by decide) rfl (fun ls hl => ?_)
    refine lv_iload_n hx hb dX10_readItem_81 rfl (lv_at hl 3 rfl) ?_
    refine lv_if_ne (tgt := 91) hx hb dX10_readItem_82 (by decide) (fun g => ?_) (fun g => ?_)
    · rw [if_neg g] at h
      refine lv_aload_n hx hb dX10_readItem_91 rfl (lv_at hl 1 rfl) ?_
      refine lv_dup hx hb dX10_readItem_92 rfl ?_
      refine va_get (D := D) (ci := 10) (v := .int c0_5) (C := RX10) (T := TX10) (N := 23) hx hb hts huX10 hown hK hP 0 rfl rfl 5 (by decide) (hts (.fieldLink RX10 103 "VerseColumnsModel" "place" "I") (by decide +kernel)) (fun _ h9 => h9) rfl dX10_readItem_93 ?_
      refine lv_iconst (v := (1 : Int32)) hx hb dX10_readItem_96 (by decide) ?_
      refine lv_iadd hx hb dX10_readItem_97 ?_
      refine va_put (D := D) (ci := 10) (v := .int (c0_5 + (1 : Int32))) (ty := .int) (C := RX10) (T := TX10) (N := 23) hx hb hts huX10 tyX10 tyX10_ok nmX10 hown hK hP hD hS 0 rfl rfl 5 (by decide) (hts (.fieldLink RX10 103 "VerseColumnsModel" "place" "I") (by decide +kernel)) (fun _ h9 => h9) rfl (by decide +kernel) rfl rfl (Nat.le_of_ble_eq_true rfl) dX10_readItem_98 (fun H locs hP hD hS => ?_)
      have hP : va_P D vwCl (wMD cC cI aD vD0 vD1 vD2 vD3 vD4 (c0_5 + (1 : Int32)) c0_6 c0_7 c0_8 c0_9 c0_10 c0_11 c0_12 vD13 vD14 vD15 vD16 vD17 vD18 vD19 vD20 vD21 vD22) H := hP
      have hD : va_D A (wMD cC cI aD vD0 vD1 vD2 vD3 vD4 (c0_5 + (1 : Int32)) c0_6 c0_7 c0_8 c0_9 c0_10 c0_11 c0_12 vD13 vD14 vD15 vD16 vD17 vD18 vD19 vD20 vD21 vD22) := hD
      refine lv_aload_n hx hb dX10_readItem_101 rfl (lv_at hl 1 rfl) ?_
      refine lv_iload_n hx hb dX10_readItem_102 rfl (lv_at hl 0 rfl) ?_
      refine lv_bipush (v := (62 : Int32)) hx hb dX10_readItem_103 (by decide) ?_
      refine lv_icmp_eq (tgt := 116) hx hb dX10_readItem_105 (by decide) (fun g => ?_) (fun g => ?_)
      · rw [if_pos g] at h
        exact j116 (c0_5 + (1 : Int32)) c0_6 c0_7 c0_8 c0_9 c0_10 c0_11 c0_12 y1 t0 _ _ _ h hP hD hS (lv_sub hl [1, 2, 0] rfl)
      · rw [if_neg g] at h
        refine lv_iload_n hx hb dX10_readItem_108 rfl (lv_at hl 2 rfl) ?_
        refine lv_aload_n hx hb dX10_readItem_109 rfl (lv_at hl 1 rfl) ?_
        refine va_get (D := D) (ci := 10) (v := .int c0_8) (C := RX10) (T := TX10) (N := 23) hx hb hts huX10 hown hK hP 0 rfl rfl 8 (by decide) (hts (.fieldLink RX10 120 "VerseColumnsModel" "leftOver" "I") (by decide +kernel)) (fun _ h9 => h9) rfl dX10_readItem_110 ?_
        refine lv_icmp_gt (tgt := 140) hx hb dX10_readItem_113 (by decide) (fun g => ?_) (fun g => ?_)
        · rw [if_pos g] at h
          exact j140 (c0_5 + (1 : Int32)) c0_6 c0_7 c0_8 c0_9 c0_10 c0_11 c0_12 y1 t0 _ _ _ h hP hD hS (lv_sub hl [1, 2, 0] rfl)
        · rw [if_neg g] at h
          exact j116 (c0_5 + (1 : Int32)) c0_6 c0_7 c0_8 c0_9 c0_10 c0_11 c0_12 y1 t0 _ _ _ h hP hD hS (lv_sub hl [1, 2, 0] rfl)
    · rw [if_pos g] at h
      refine lv_aload_n hx hb dX10_readItem_85 rfl (lv_at hl 1 rfl) ?_
      refine lv_iconst (v := (0 : Int32)) hx hb dX10_readItem_86 (by decide) ?_
      refine va_put (D := D) (ci := 10) (v := .int (0 : Int32)) (ty := .boolean) (C := RX10) (T := TX10) (N := 23) hx hb hts huX10 tyX10 tyX10_ok nmX10 hown hK hP hD hS 0 rfl rfl 6 (by decide) (hts (.fieldLink RX10 109 "VerseColumnsModel" "isGood" "Z") (by decide +kernel)) (fun _ h9 => h9) rfl (by decide +kernel) rfl rfl (Nat.le_of_ble_eq_true rfl) dX10_readItem_87 (fun H locs hP hD hS => ?_)
      have hP : va_P D vwCl (wMD cC cI aD vD0 vD1 vD2 vD3 vD4 c0_5 (0 : Int32) c0_7 c0_8 c0_9 c0_10 c0_11 c0_12 vD13 vD14 vD15 vD16 vD17 vD18 vD19 vD20 vD21 vD22) H := hP
      have hD : va_D A (wMD cC cI aD vD0 vD1 vD2 vD3 vD4 c0_5 (0 : Int32) c0_7 c0_8 c0_9 c0_10 c0_11 c0_12 vD13 vD14 vD15 vD16 vD17 vD18 vD19 vD20 vD21 vD22) := hD
      obtain rfl := Option.some.inj h
      exact W.vret hx hb hr (fun t ht hW => ⟨⟨(), rfl, trivial, by rw [ht]; exact hP, hD⟩, hS.F ht⟩) hS.2.2 dX10_readItem_90
  have j61 : ∀ (c0_5 : Int32) (c0_6 : Int32) (c0_7 : Int32) (c0_8 : Int32) (c0_9 : Int32) (c0_10 : Int32) (c0_11 : (Nat → Int32)) (c0_12 : (Nat → Int32)) (y1 : Int32) (t0 : Int32) (H : Heap) (locs : List Loc) (ls : Array Slot), pX10_readItem_j61 vD3 vD4 c0_5 c0_6 c0_7 c0_8 c0_9 c0_10 c0_11 c0_12 y1 t0 = some q → va_P D vwCl (wMD cC cI aD vD0 vD1 vD2 vD3 vD4 c0_5 c0_6 c0_7 c0_8 c0_9 c0_10 c0_11 c0_12 vD13 vD14 vD15 vD16 vD17 vD18 vD19 vD20 vD21 vD22) H → va_D A (wMD cC cI aD vD0 vD1 vD2 vD3 vD4 c0_5 c0_6 c0_7 c0_8 c0_9 c0_10 c0_11 c0_12 vD13 vD14 vD15 vD16 vD17 vD18 vD19 vD20 vD21 vD22) → va_S A s.heap H locs → lv_has ls 5 [(0, .ref aD.1), (1, .int y1)] → W p l e ({ frames := 2, cells := 0, slots := 0, locals := 43 } : Room) s m ([.ref aD.1] : List Value).toArray below meth c H locs 0 0 (MQ below (va_Qv (fun (_ : Unit) => True) (fun _ => kPost D (wMD cC cI aD vD0 vD1 vD2 vD3 vD4 q.1 q.2.1 q.2.2.1 q.2.2.2.1 q.2.2.2.2.1 q.2.2.2.2.2.1 q.2.2.2.2.2.2.1 q.2.2.2.2.2.2.2 vD13 vD14 vD15 vD16 vD17 vD18 vD19 vD20 vD21 vD22) A) A) ([.ref aD.1] : List Value).toArray s 0 0 A) (F0 m 61 ls [.int t0]) := by
    clear h hP hD hS hl
    intro c0_5 c0_6 c0_7 c0_8 c0_9 c0_10 c0_11 c0_12 y1 t0 H locs ls h hP hD hS hl
    unfold pX10_readItem_j61 at h
    refine lv_istore_n (lv' := [(2, .int t0), (0, .ref aD.1), (1, .int y1)]) hx hb dX10_readItem_61 rfl hl (by decide) rfl (fun ls hl => ?_)
    refine lv_iload_n hx hb dX10_readItem_62 rfl (lv_at hl 0 rfl) ?_
    refine lv_if_eq (tgt := 78) hx hb dX10_readItem_63 (by decide) (fun g => ?_) (fun g => ?_)
    · rw [if_pos g] at h
      refine lv_bipush (v := (32 : Int32)) hx hb dX10_readItem_78 (by decide) ?_
      exact j80 c0_5 c0_6 c0_7 c0_8 c0_9 c0_10 c0_11 c0_12 y1 t0 (32 : Int32) _ _ _ h hP hD hS (lv_sub hl [1, 2, 0] rfl)
    · rw [if_neg g] at h
      refine lv_aload_n hx hb dX10_readItem_66 rfl (lv_at hl 1 rfl) ?_
      refine va_get (D := D) (ci := 10) (v := .ref aD.2.2.2.1) (C := RX10) (T := TX10) (N := 23) hx hb hts huX10 hown hK hP 0 rfl rfl 4 (by decide) (hts (.fieldLink RX10 16 "VerseColumnsModel" "text" "[C") (by decide +kernel)) (fun _ h9 => h9) rfl dX10_readItem_67 ?_
      refine lv_aload_n hx hb dX10_readItem_70 rfl (lv_at hl 1 rfl) ?_
      refine va_get (D := D) (ci := 10) (v := .int c0_5) (C := RX10) (T := TX10) (N := 23) hx hb hts huX10 hown hK hP 0 rfl rfl 5 (by decide) (hts (.fieldLink RX10 103 "VerseColumnsModel" "place" "I") (by decide +kernel)) (fun _ h9 => h9) rfl dX10_readItem_71 ?_
      obtain ⟨g, h⟩ := kif h
      refine va_cald hx hb hK hP 3 1 rfl rfl (kin g) dX10_readItem_74 ?_
      refine lv_goto (tgt := 80) hx hb dX10_readItem_75 (by decide) ?_
      exact j80 c0_5 c0_6 c0_7 c0_8 c0_9 c0_10 c0_11 c0_12 y1 t0 (vD4 c0_5.toNatClampNeg) _ _ _ h hP hD hS (lv_sub hl [1, 2, 0] rfl)
  have j60 : ∀ (c0_5 : Int32) (c0_6 : Int32) (c0_7 : Int32) (c0_8 : Int32) (c0_9 : Int32) (c0_10 : Int32) (c0_11 : (Nat → Int32)) (c0_12 : (Nat → Int32)) (y1 : Int32) (H : Heap) (locs : List Loc) (ls : Array Slot), pX10_readItem_j60 vD3 vD4 c0_5 c0_6 c0_7 c0_8 c0_9 c0_10 c0_11 c0_12 y1 = some q → va_P D vwCl (wMD cC cI aD vD0 vD1 vD2 vD3 vD4 c0_5 c0_6 c0_7 c0_8 c0_9 c0_10 c0_11 c0_12 vD13 vD14 vD15 vD16 vD17 vD18 vD19 vD20 vD21 vD22) H → va_D A (wMD cC cI aD vD0 vD1 vD2 vD3 vD4 c0_5 c0_6 c0_7 c0_8 c0_9 c0_10 c0_11 c0_12 vD13 vD14 vD15 vD16 vD17 vD18 vD19 vD20 vD21 vD22) → va_S A s.heap H locs → lv_has ls 5 [(0, .ref aD.1), (1, .int y1)] → W p l e ({ frames := 2, cells := 0, slots := 0, locals := 43 } : Room) s m ([.ref aD.1] : List Value).toArray below meth c H locs 0 0 (MQ below (va_Qv (fun (_ : Unit) => True) (fun _ => kPost D (wMD cC cI aD vD0 vD1 vD2 vD3 vD4 q.1 q.2.1 q.2.2.1 q.2.2.2.1 q.2.2.2.2.1 q.2.2.2.2.2.1 q.2.2.2.2.2.2.1 q.2.2.2.2.2.2.2 vD13 vD14 vD15 vD16 vD17 vD18 vD19 vD20 vD21 vD22) A) A) ([.ref aD.1] : List Value).toArray s 0 0 A) (F0 m 60 ls []) := by
    clear h hP hD hS hl
    intro c0_5 c0_6 c0_7 c0_8 c0_9 c0_10 c0_11 c0_12 y1 H locs ls h hP hD hS hl
    unfold pX10_readItem_j60 at h
    refine lv_iconst (v := (0 : Int32)) hx hb dX10_readItem_60 (by decide) ?_
    exact j61 c0_5 c0_6 c0_7 c0_8 c0_9 c0_10 c0_11 c0_12 y1 (0 : Int32) _ _ _ h hP hD hS (lv_sub hl [0, 1] rfl)
  have j56 : ∀ (c0_5 : Int32) (c0_6 : Int32) (c0_7 : Int32) (c0_8 : Int32) (c0_9 : Int32) (c0_10 : Int32) (c0_11 : (Nat → Int32)) (c0_12 : (Nat → Int32)) (y1 : Int32) (H : Heap) (locs : List Loc) (ls : Array Slot), pX10_readItem_j56 vD3 vD4 c0_5 c0_6 c0_7 c0_8 c0_9 c0_10 c0_11 c0_12 y1 = some q → va_P D vwCl (wMD cC cI aD vD0 vD1 vD2 vD3 vD4 c0_5 c0_6 c0_7 c0_8 c0_9 c0_10 c0_11 c0_12 vD13 vD14 vD15 vD16 vD17 vD18 vD19 vD20 vD21 vD22) H → va_D A (wMD cC cI aD vD0 vD1 vD2 vD3 vD4 c0_5 c0_6 c0_7 c0_8 c0_9 c0_10 c0_11 c0_12 vD13 vD14 vD15 vD16 vD17 vD18 vD19 vD20 vD21 vD22) → va_S A s.heap H locs → lv_has ls 5 [(0, .ref aD.1), (1, .int y1)] → W p l e ({ frames := 2, cells := 0, slots := 0, locals := 43 } : Room) s m ([.ref aD.1] : List Value).toArray below meth c H locs 0 0 (MQ below (va_Qv (fun (_ : Unit) => True) (fun _ => kPost D (wMD cC cI aD vD0 vD1 vD2 vD3 vD4 q.1 q.2.1 q.2.2.1 q.2.2.2.1 q.2.2.2.2.1 q.2.2.2.2.2.1 q.2.2.2.2.2.2.1 q.2.2.2.2.2.2.2 vD13 vD14 vD15 vD16 vD17 vD18 vD19 vD20 vD21 vD22) A) A) ([.ref aD.1] : List Value).toArray s 0 0 A) (F0 m 56 ls []) := by
    clear h hP hD hS hl
    intro c0_5 c0_6 c0_7 c0_8 c0_9 c0_10 c0_11 c0_12 y1 H locs ls h hP hD hS hl
    unfold pX10_readItem_j56 at h
    refine lv_iconst (v := (1 : Int32)) hx hb dX10_readItem_56 (by decide) ?_
    refine lv_goto (tgt := 61) hx hb dX10_readItem_57 (by decide) ?_
    exact j61 c0_5 c0_6 c0_7 c0_8 c0_9 c0_10 c0_11 c0_12 y1 (1 : Int32) _ _ _ h hP hD hS (lv_sub hl [0, 1] rfl)
  unfold pX10_readItem at h
  refine lv_aload_n hx hb dX10_readItem_0 rfl (lv_at hl 0 rfl) ?_
  obtain ⟨q2, h1, h⟩ := Option.bind_eq_some_iff.mp h
  refine kciw (ws' := (wMD cC cI aD vD0 vD1 vD2 vD3 vD4 q2.2.1 q2.2.2.1 q2.2.2.2 vD8 vD9 vD10 vD11 vD12 vD13 vD14 vD15 vD16 vD17 vD18 vD19 vD20 vD21 vD22)) [0, 1, 2, 3, 4, 5, 6, 7, 8, 9, 10] (va_runV (As := []) (rest := []) ⟨hx, hb, hml, hown, hts⟩ (kX10_number l D cI cC cS aD vD0 vD1 vD2 vD3 vD4 vD5 vD6 vD7 vD8 vD9 vD10 vD11 vD12 vD13 vD14 vD15 vD16 vD17 vD18 vD19 vD20 vD21 vD22 s.heap.size h1) (cwV 0 hts gX10_readItem_X10_number rfl rfl rfl (by decide +kernel) ⟨Nat.le_of_ble_eq_true rfl, Nat.le_of_ble_eq_true rfl⟩) (kpreV hK hN hP hD [0, 1, 2, 3, 4, 5, 6, 7, 8, 9, 10] rfl (by decide) 10 rfl rfl) rfl rfl hl.1 rfl (lv_room (Nat.le_of_ble_eq_true rfl)) dX10_readItem_1 ⟨Nat.le_refl _, Nat.le_refl _⟩) hP hD hS hA rfl (by decide) rfl [1, 2, 3, 4, 5, 6, 7, 8, 9, 10, 11] (by decide +kernel) rfl (fun H locs hP hD hS => ?_)
  refine lv_istore_n (lv' := [(1, .int q2.1), (0, .ref aD.1)]) hx hb dX10_readItem_4 rfl hl (by decide) rfl (fun ls hl => ?_)
  refine lv_aload_n hx hb dX10_readItem_5 rfl (lv_at hl 1 rfl) ?_
  refine va_get (D := D) (ci := 10) (v := .int q2.2.2.1) (C := RX10) (T := TX10) (N := 23) hx hb hts huX10 hown hK hP 0 rfl rfl 6 (by decide) (hts (.fieldLink RX10 109 "VerseColumnsModel" "isGood" "Z") (by decide +kernel)) (fun _ h9 => h9) rfl dX10_readItem_6 ?_
  refine lv_if_eq (tgt := 60) hx hb dX10_readItem_9 (by decide) (fun g => ?_) (fun g => ?_)
  · rw [if_pos g] at h
    exact j60 q2.2.1 q2.2.2.1 q2.2.2.2 vD8 vD9 vD10 vD11 vD12 q2.1 _ _ _ h hP hD hS (lv_sub hl [1, 0] rfl)
  · rw [if_neg g] at h
    refine lv_aload_n hx hb dX10_readItem_12 rfl (lv_at hl 1 rfl) ?_
    refine lv_bipush (v := (61 : Int32)) hx hb dX10_readItem_13 (by decide) ?_
    refine lv_bipush (v := (61 : Int32)) hx hb dX10_readItem_15 (by decide) ?_
    obtain ⟨q14, h13, h⟩ := Option.bind_eq_some_iff.mp h
    refine kcir [0, 1, 2, 3, 4, 5, 6, 7, 8, 9, 10] (va_runV (As := [.int (61 : Int32), .int (61 : Int32)]) (rest := []) ⟨hx, hb, hml, hown, hts⟩ (kX10_isAt l D cI cC cS aD vD0 vD1 vD2 vD3 vD4 q2.2.1 q2.2.2.1 q2.2.2.2 vD8 vD9 vD10 vD11 vD12 vD13 vD14 vD15 vD16 vD17 vD18 vD19 vD20 vD21 vD22 (61 : Int32) (61 : Int32) H.size h13) (cwV 2 hts gX10_readItem_X10_isAt rfl rfl rfl (by decide +kernel) ⟨Nat.le_of_ble_eq_true rfl, Nat.le_of_ble_eq_true rfl⟩) (kpreV hK hN hP hD [0, 1, 2, 3, 4, 5, 6, 7, 8, 9, 10] rfl (by decide) 10 rfl rfl) rfl rfl hl.1 rfl (lv_room (Nat.le_of_ble_eq_true rfl)) dX10_readItem_17 ⟨Nat.le_refl _, Nat.le_refl _⟩) hP hD hS hA rfl (fun H locs hP hS => ?_)
    refine lv_if_ne (tgt := 56) hx hb dX10_readItem_20 (by decide) (fun g => ?_) (fun g => ?_)
    · rw [if_neg g] at h
      exact j56 q2.2.1 q2.2.2.1 q2.2.2.2 vD8 vD9 vD10 vD11 vD12 q2.1 _ _ _ h hP hD hS (lv_sub hl [1, 0] rfl)
    · rw [if_pos g] at h
      refine lv_aload_n hx hb dX10_readItem_23 rfl (lv_at hl 1 rfl) ?_
      refine lv_bipush (v := (60 : Int32)) hx hb dX10_readItem_24 (by decide) ?_
      refine lv_bipush (v := (60 : Int32)) hx hb dX10_readItem_26 (by decide) ?_
      obtain ⟨q16, h15, h⟩ := Option.bind_eq_some_iff.mp h
      refine kcir [0, 1, 2, 3, 4, 5, 6, 7, 8, 9, 10] (va_runV (As := [.int (60 : Int32), .int (60 : Int32)]) (rest := []) ⟨hx, hb, hml, hown, hts⟩ (kX10_isAt l D cI cC cS aD vD0 vD1 vD2 vD3 vD4 q2.2.1 q2.2.2.1 q2.2.2.2 vD8 vD9 vD10 vD11 vD12 vD13 vD14 vD15 vD16 vD17 vD18 vD19 vD20 vD21 vD22 (60 : Int32) (60 : Int32) H.size h15) (cwV 2 hts gX10_readItem_X10_isAt rfl rfl rfl (by decide +kernel) ⟨Nat.le_of_ble_eq_true rfl, Nat.le_of_ble_eq_true rfl⟩) (kpreV hK hN hP hD [0, 1, 2, 3, 4, 5, 6, 7, 8, 9, 10] rfl (by decide) 10 rfl rfl) rfl rfl hl.1 rfl (lv_room (Nat.le_of_ble_eq_true rfl)) dX10_readItem_28 ⟨Nat.le_refl _, Nat.le_refl _⟩) hP hD hS hA rfl (fun H locs hP hS => ?_)
      refine lv_if_ne (tgt := 56) hx hb dX10_readItem_31 (by decide) (fun g => ?_) (fun g => ?_)
      · rw [if_neg g] at h
        exact j56 q2.2.1 q2.2.2.1 q2.2.2.2 vD8 vD9 vD10 vD11 vD12 q2.1 _ _ _ h hP hD hS (lv_sub hl [1, 0] rfl)
      · rw [if_pos g] at h
        refine lv_aload_n hx hb dX10_readItem_34 rfl (lv_at hl 1 rfl) ?_
        refine lv_bipush (v := (62 : Int32)) hx hb dX10_readItem_35 (by decide) ?_
        refine lv_bipush (v := (62 : Int32)) hx hb dX10_readItem_37 (by decide) ?_
        obtain ⟨q18, h17, h⟩ := Option.bind_eq_some_iff.mp h
        refine kcir [0, 1, 2, 3, 4, 5, 6, 7, 8, 9, 10] (va_runV (As := [.int (62 : Int32), .int (62 : Int32)]) (rest := []) ⟨hx, hb, hml, hown, hts⟩ (kX10_isAt l D cI cC cS aD vD0 vD1 vD2 vD3 vD4 q2.2.1 q2.2.2.1 q2.2.2.2 vD8 vD9 vD10 vD11 vD12 vD13 vD14 vD15 vD16 vD17 vD18 vD19 vD20 vD21 vD22 (62 : Int32) (62 : Int32) H.size h17) (cwV 2 hts gX10_readItem_X10_isAt rfl rfl rfl (by decide +kernel) ⟨Nat.le_of_ble_eq_true rfl, Nat.le_of_ble_eq_true rfl⟩) (kpreV hK hN hP hD [0, 1, 2, 3, 4, 5, 6, 7, 8, 9, 10] rfl (by decide) 10 rfl rfl) rfl rfl hl.1 rfl (lv_room (Nat.le_of_ble_eq_true rfl)) dX10_readItem_39 ⟨Nat.le_refl _, Nat.le_refl _⟩) hP hD hS hA rfl (fun H locs hP hS => ?_)
        refine lv_if_ne (tgt := 56) hx hb dX10_readItem_42 (by decide) (fun g => ?_) (fun g => ?_)
        · rw [if_neg g] at h
          exact j56 q2.2.1 q2.2.2.1 q2.2.2.2 vD8 vD9 vD10 vD11 vD12 q2.1 _ _ _ h hP hD hS (lv_sub hl [1, 0] rfl)
        · rw [if_pos g] at h
          refine lv_aload_n hx hb dX10_readItem_45 rfl (lv_at hl 1 rfl) ?_
          refine lv_bipush (v := (43 : Int32)) hx hb dX10_readItem_46 (by decide) ?_
          refine lv_bipush (v := (43 : Int32)) hx hb dX10_readItem_48 (by decide) ?_
          obtain ⟨q20, h19, h⟩ := Option.bind_eq_some_iff.mp h
          refine kcir [0, 1, 2, 3, 4, 5, 6, 7, 8, 9, 10] (va_runV (As := [.int (43 : Int32), .int (43 : Int32)]) (rest := []) ⟨hx, hb, hml, hown, hts⟩ (kX10_isAt l D cI cC cS aD vD0 vD1 vD2 vD3 vD4 q2.2.1 q2.2.2.1 q2.2.2.2 vD8 vD9 vD10 vD11 vD12 vD13 vD14 vD15 vD16 vD17 vD18 vD19 vD20 vD21 vD22 (43 : Int32) (43 : Int32) H.size h19) (cwV 2 hts gX10_readItem_X10_isAt rfl rfl rfl (by decide +kernel) ⟨Nat.le_of_ble_eq_true rfl, Nat.le_of_ble_eq_true rfl⟩) (kpreV hK hN hP hD [0, 1, 2, 3, 4, 5, 6, 7, 8, 9, 10] rfl (by decide) 10 rfl rfl) rfl rfl hl.1 rfl (lv_room (Nat.le_of_ble_eq_true rfl)) dX10_readItem_50 ⟨Nat.le_refl _, Nat.le_refl _⟩) hP hD hS hA rfl (fun H locs hP hS => ?_)
          refine lv_if_eq (tgt := 60) hx hb dX10_readItem_53 (by decide) (fun g => ?_) (fun g => ?_)
          · rw [if_pos g] at h
            exact j60 q2.2.1 q2.2.2.1 q2.2.2.2 vD8 vD9 vD10 vD11 vD12 q2.1 _ _ _ h hP hD hS (lv_sub hl [1, 0] rfl)
          · rw [if_neg g] at h
            exact j56 q2.2.1 q2.2.2.1 q2.2.2.2 vD8 vD9 vD10 vD11 vD12 q2.1 _ _ _ h hP hD hS (lv_sub hl [1, 0] rfl)
