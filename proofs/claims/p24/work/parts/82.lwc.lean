-- walks of the law's helpers (printed by wip/p24/gen/g3.py)
set_option maxHeartbeats 8000000 in
set_option maxRecDepth 100000 in
theorem kL_pages (l : Launch) (D : va_G) (cI cC cS : ClassId) (lo aV : Nat) (vO0 : Sg) (X : va_W) (i2 : Int32) {q : Int32} (h : pL_pages vO0 i2 = some q) : kAc l yL_pages wsL_pages ({ frames := 7, cells := 0, slots := 0, locals := 160 } : Room) D (kTy cI cC cS) lo [.ref aV, .int i2] (aW D cI cC cS lo aV vO0 X) (aW D cI cC cS lo aV vO0 X) q 0 0 := by
  refine Met.ofW (cc := cL_pages) (maxL := 11) (ret := (some .boolean)) (by decide) rfl ?_
  intro p e s m args below meth c s₁ B hml hv
  obtain ⟨rfl, hP, hK, hN, hz⟩ := hv
  have hx := B.exec
  have hb := B.bytes
  have hr := B.returns
  have hts := atoms_spec (ws := wsL_pages) B.pre
  have hown : s.vm.findClass RL = some m.cls := findClass_of_methodNamed B.named
  have hlocks := B.notSynchronized
  have hS : va_S (fun q => lo ≤ q) s.heap s.heap [] := va_S.rf
  have hl := lv_entry ([.ref aV, .int i2]) (n := 11) (Nat.le_of_ble_eq_true rfl)
  rw [lg_entry_eq]
  generalize (lg_sl ([.ref aV, .int i2]) ++ List.replicate (11 - (lg_sl ([.ref aV, .int i2])).length) Slot.unset).toArray = ls at hl ⊢
  have hl : lv_has ls 11 [(0, .ref aV), (1, .int i2)] := hl
  have L17 : ∀ (nL17 : Nat) (y1 : Int32) (y2 : Int32) (y3 : Int32) (y4 : Int32) (y5 : Int32) (y6 : Int32) (H : Heap) (locs : List Loc) (ls : Array Slot), pL_pages_L17 vO0 nL17 y1 y2 y3 y4 y5 y6 = some q → (aW D cI cC cS lo aV vO0 X) H → va_S (fun q => lo ≤ q) s.heap H locs → lv_has ls 11 [(0, .ref aV), (1, .int y1), (2, .int y2), (3, .int y3), (4, .int y4), (5, .int y5), (6, .int y6)] → W p l e ({ frames := 7, cells := 0, slots := 0, locals := 160 } : Room) s m ([.ref aV, .int i2] : List Value).toArray below meth c H locs 0 0 (MQ below (va_Qi (fun (r : Int32) (_ : Unit) => r = q) (fun _ t => (aW D cI cC cS lo aV vO0 X) t.heap) (fun q => lo ≤ q)) ([.ref aV, .int i2] : List Value).toArray s 0 0 (fun q => lo ≤ q)) (F0 m 17 ls []) := by
    clear h hP hS hl
    intro nL17
    induction nL17 with
    | zero => intro y1 y2 y3 y4 y5 y6 H locs ls h; have h : (none : Option (Int32)) = some q := h; cases h
    | succ nL17 ihL17 =>
      have j296 : ∀ (y1 : Int32) (y2 : Int32) (y3 : Int32) (y4 : Int32) (y5 : Int32) (y6 : Int32) (H : Heap) (locs : List Loc) (ls : Array Slot), pL_pages_j296 vO0 (pL_pages_L17 vO0 nL17) y1 y2 y3 y4 y5 y6 = some q → (aW D cI cC cS lo aV vO0 X) H → va_S (fun q => lo ≤ q) s.heap H locs → lv_has ls 11 [(0, .ref aV), (1, .int y1), (2, .int y2), (3, .int y3), (4, .int y4), (5, .int y5), (6, .int y6)] → W p l e ({ frames := 7, cells := 0, slots := 0, locals := 160 } : Room) s m ([.ref aV, .int i2] : List Value).toArray below meth c H locs 0 0 (MQ below (va_Qi (fun (r : Int32) (_ : Unit) => r = q) (fun _ t => (aW D cI cC cS lo aV vO0 X) t.heap) (fun q => lo ≤ q)) ([.ref aV, .int i2] : List Value).toArray s 0 0 (fun q => lo ≤ q)) (F0 m 296 ls []) := by
        skip
        intro y1 y2 y3 y4 y5 y6 H locs ls h hP hS hl
        unfold pL_pages_j296 at h
        refine lv_iinc (v := (y6 + (1 : Int32))) (lv' := [(6, .int (y6 + (1 : Int32))), (0, .ref aV), (1, .int y1), (2, .int y2), (3, .int y3), (4, .int y4), (5, .int y5)]) hx hb dL_pages_296 hl (k := 6) rfl rfl (by decide) rfl (fun ls hl => ?_)
        refine lv_goto (tgt := 17) hx hb dL_pages_299 (by decide) ?_
        exact ihL17 y1 y2 y3 y4 y5 (y6 + (1 : Int32)) _ _ _ h hP hS (lv_sub hl [1, 2, 3, 4, 5, 6, 0] rfl)
      have j259 : ∀ (y1 : Int32) (y2 : Int32) (y3 : Int32) (y4 : Int32) (y5 : Int32) (y6 : Int32) (t0 : Int32) (t1 : Int32) (H : Heap) (locs : List Loc) (ls : Array Slot), pL_pages_j259 vO0 (pL_pages_L17 vO0 nL17) y1 y2 y3 y4 y5 y6 t0 t1 = some q → (aW D cI cC cS lo aV vO0 X) H → va_S (fun q => lo ≤ q) s.heap H locs → lv_has ls 11 [(0, .ref aV), (1, .int y1), (2, .int y2), (3, .int y3), (4, .int y4), (5, .int y5), (6, .int y6)] → W p l e ({ frames := 7, cells := 0, slots := 0, locals := 160 } : Room) s m ([.ref aV, .int i2] : List Value).toArray below meth c H locs 0 0 (MQ below (va_Qi (fun (r : Int32) (_ : Unit) => r = q) (fun _ t => (aW D cI cC cS lo aV vO0 X) t.heap) (fun q => lo ≤ q)) ([.ref aV, .int i2] : List Value).toArray s 0 0 (fun q => lo ≤ q)) (F0 m 259 ls [.int t1, .int t0]) := by
        skip
        intro y1 y2 y3 y4 y5 y6 t0 t1 H locs ls h hP hS hl
        unfold pL_pages_j259 at h
        refine lv_icmp_ne (tgt := 294) hx hb dL_pages_259 (by decide) (fun g => ?_) (fun g => ?_)
        · rw [if_neg g] at h
          refine lv_iconst (v := (0 : Int32)) hx hb dL_pages_294 (by decide) ?_
          obtain rfl := Option.some.inj h
          exact W.zret (v := (0 : Int32)) hx hb hr rfl (fun t ht hW => ⟨⟨_, (), rfl, rfl, by dsimp only; rw [ht]; exact hP⟩, hS.F ht⟩) hS.2.2 dL_pages_295
        · rw [if_pos g] at h
          refine lv_aload_n hx hb dL_pages_262 rfl (lv_at hl 0 rfl) ?_
          refine lv_iload_n hx hb dL_pages_263 rfl (lv_at hl 3 rfl) ?_
          refine lv_iconst (v := (5 : Int32)) hx hb dL_pages_264 (by decide) ?_
          obtain ⟨q28, h27, h⟩ := Option.bind_eq_some_iff.mp h
          refine kciA (va_runV (As := [.int y3, .int (5 : Int32)]) (rest := []) ⟨hx, hb, hml, hown, hts⟩ (aX9_page l D cI cC cS lo aV vO0 (X) y3 (5 : Int32) h27) (cwV 2 hts gL_pages_X9_page rfl rfl rfl (by decide +kernel) ⟨Nat.le_of_ble_eq_true rfl, Nat.le_of_ble_eq_true rfl⟩) (kpreVA hP hK hN (Nat.le_trans hz hS.1)) rfl rfl hl.1 rfl (lv_room (Nat.le_of_ble_eq_true rfl)) dL_pages_265 ⟨Nat.le_of_ble_eq_true rfl, Nat.le_of_ble_eq_true rfl⟩) hS (fun H locs hP hS => ?_)
          refine lv_bipush (v := (-2 : Int32)) hx hb dL_pages_268 (by decide) ?_
          refine lv_icmp_ne (tgt := 294) hx hb dL_pages_270 (by decide) (fun g => ?_) (fun g => ?_)
          · rw [if_neg g] at h
            refine lv_iconst (v := (0 : Int32)) hx hb dL_pages_294 (by decide) ?_
            obtain rfl := Option.some.inj h
            exact W.zret (v := (0 : Int32)) hx hb hr rfl (fun t ht hW => ⟨⟨_, (), rfl, rfl, by dsimp only; rw [ht]; exact hP⟩, hS.F ht⟩) hS.2.2 dL_pages_295
          · rw [if_pos g] at h
            refine lv_aload_n hx hb dL_pages_273 rfl (lv_at hl 0 rfl) ?_
            refine lv_iload_n hx hb dL_pages_274 rfl (lv_at hl 3 rfl) ?_
            refine lv_iconst (v := (4 : Int32)) hx hb dL_pages_275 (by decide) ?_
            obtain ⟨q30, h29, h⟩ := Option.bind_eq_some_iff.mp h
            refine kciA (va_runV (As := [.int y3, .int (4 : Int32)]) (rest := []) ⟨hx, hb, hml, hown, hts⟩ (aX9_page l D cI cC cS lo aV vO0 (X) y3 (4 : Int32) h29) (cwV 2 hts gL_pages_X9_page rfl rfl rfl (by decide +kernel) ⟨Nat.le_of_ble_eq_true rfl, Nat.le_of_ble_eq_true rfl⟩) (kpreVA hP hK hN (Nat.le_trans hz hS.1)) rfl rfl hl.1 rfl (lv_room (Nat.le_of_ble_eq_true rfl)) dL_pages_276 ⟨Nat.le_of_ble_eq_true rfl, Nat.le_of_ble_eq_true rfl⟩) hS (fun H locs hP hS => ?_)
            refine lv_iconst (v := (1 : Int32)) hx hb dL_pages_279 (by decide) ?_
            refine lv_icmp_ne (tgt := 296) hx hb dL_pages_280 (by decide) (fun g => ?_) (fun g => ?_)
            · rw [if_neg g] at h
              exact j296 y1 y2 y3 y4 y5 y6 _ _ _ h hP hS (lv_sub hl [0, 1, 2, 3, 4, 5, 6] rfl)
            · rw [if_pos g] at h
              refine lv_aload_n hx hb dL_pages_283 rfl (lv_at hl 0 rfl) ?_
              refine lv_iload_n hx hb dL_pages_284 rfl (lv_at hl 3 rfl) ?_
              refine lv_iconst (v := (0 : Int32)) hx hb dL_pages_285 (by decide) ?_
              obtain ⟨q32, h31, h⟩ := Option.bind_eq_some_iff.mp h
              refine kciA (va_runV (As := [.int y3, .int (0 : Int32)]) (rest := []) ⟨hx, hb, hml, hown, hts⟩ (aX9_page l D cI cC cS lo aV vO0 (X) y3 (0 : Int32) h31) (cwV 2 hts gL_pages_X9_page rfl rfl rfl (by decide +kernel) ⟨Nat.le_of_ble_eq_true rfl, Nat.le_of_ble_eq_true rfl⟩) (kpreVA hP hK hN (Nat.le_trans hz hS.1)) rfl rfl hl.1 rfl (lv_room (Nat.le_of_ble_eq_true rfl)) dL_pages_286 ⟨Nat.le_of_ble_eq_true rfl, Nat.le_of_ble_eq_true rfl⟩) hS (fun H locs hP hS => ?_)
              refine lv_iload hx hb dL_pages_289 (lv_at hl 6 rfl) ?_
              refine lv_icmp_eq (tgt := 296) hx hb dL_pages_291 (by decide) (fun g => ?_) (fun g => ?_)
              · rw [if_pos g] at h
                exact j296 y1 y2 y3 y4 y5 y6 _ _ _ h hP hS (lv_sub hl [0, 1, 2, 3, 4, 5, 6] rfl)
              · rw [if_neg g] at h
                refine lv_iconst (v := (0 : Int32)) hx hb dL_pages_294 (by decide) ?_
                obtain rfl := Option.some.inj h
                exact W.zret (v := (0 : Int32)) hx hb hr rfl (fun t ht hW => ⟨⟨_, (), rfl, rfl, by dsimp only; rw [ht]; exact hP⟩, hS.F ht⟩) hS.2.2 dL_pages_295
      have j199 : ∀ (y1 : Int32) (y2 : Int32) (y3 : Int32) (y4 : Int32) (y5 : Int32) (y6 : Int32) (y9 : Int32) (t0 : Int32) (H : Heap) (locs : List Loc) (ls : Array Slot), pL_pages_j199 vO0 (pL_pages_L17 vO0 nL17) y1 y2 y3 y4 y5 y6 y9 t0 = some q → (aW D cI cC cS lo aV vO0 X) H → va_S (fun q => lo ≤ q) s.heap H locs → lv_has ls 11 [(0, .ref aV), (1, .int y1), (2, .int y2), (3, .int y3), (4, .int y4), (5, .int y5), (6, .int y6), (9, .int y9)] → W p l e ({ frames := 7, cells := 0, slots := 0, locals := 160 } : Room) s m ([.ref aV, .int i2] : List Value).toArray below meth c H locs 0 0 (MQ below (va_Qi (fun (r : Int32) (_ : Unit) => r = q) (fun _ t => (aW D cI cC cS lo aV vO0 X) t.heap) (fun q => lo ≤ q)) ([.ref aV, .int i2] : List Value).toArray s 0 0 (fun q => lo ≤ q)) (F0 m 199 ls [.int t0]) := by
        skip
        intro y1 y2 y3 y4 y5 y6 y9 t0 H locs ls h hP hS hl
        unfold pL_pages_j199 at h
        refine lv_istore (lv' := [(10, .int t0), (0, .ref aV), (1, .int y1), (2, .int y2), (3, .int y3), (4, .int y4), (5, .int y5), (6, .int y6), (9, .int y9)]) hx hb dL_pages_199 hl (by decide) rfl (fun ls hl => ?_)
        refine lv_iload hx hb dL_pages_201 (lv_at hl 8 rfl) ?_
        refine lv_if_eq (tgt := 296) hx hb dL_pages_203 (by decide) (fun g => ?_) (fun g => ?_)
        · rw [if_pos g] at h
          exact j296 y1 y2 y3 y4 y5 y6 _ _ _ h hP hS (lv_sub hl [1, 2, 3, 4, 5, 6, 7] rfl)
        · rw [if_neg g] at h
          refine lv_aload_n hx hb dL_pages_206 rfl (lv_at hl 1 rfl) ?_
          refine lv_iload_n hx hb dL_pages_207 rfl (lv_at hl 4 rfl) ?_
          refine lv_iconst (v := (1 : Int32)) hx hb dL_pages_208 (by decide) ?_
          obtain ⟨q20, h19, h⟩ := Option.bind_eq_some_iff.mp h
          refine kciA (va_runV (As := [.int y3, .int (1 : Int32)]) (rest := []) ⟨hx, hb, hml, hown, hts⟩ (aX9_page l D cI cC cS lo aV vO0 (X) y3 (1 : Int32) h19) (cwV 2 hts gL_pages_X9_page rfl rfl rfl (by decide +kernel) ⟨Nat.le_of_ble_eq_true rfl, Nat.le_of_ble_eq_true rfl⟩) (kpreVA hP hK hN (Nat.le_trans hz hS.1)) rfl rfl hl.1 rfl (lv_room (Nat.le_of_ble_eq_true rfl)) dL_pages_209 ⟨Nat.le_of_ble_eq_true rfl, Nat.le_of_ble_eq_true rfl⟩) hS (fun H locs hP hS => ?_)
          refine lv_iload hx hb dL_pages_212 (lv_at hl 7 rfl) ?_
          refine lv_icmp_ne (tgt := 294) hx hb dL_pages_214 (by decide) (fun g => ?_) (fun g => ?_)
          · rw [if_neg g] at h
            refine lv_iconst (v := (0 : Int32)) hx hb dL_pages_294 (by decide) ?_
            obtain rfl := Option.some.inj h
            exact W.zret (v := (0 : Int32)) hx hb hr rfl (fun t ht hW => ⟨⟨_, (), rfl, rfl, by dsimp only; rw [ht]; exact hP⟩, hS.F ht⟩) hS.2.2 dL_pages_295
          · rw [if_pos g] at h
            refine lv_aload_n hx hb dL_pages_217 rfl (lv_at hl 1 rfl) ?_
            refine lv_iload_n hx hb dL_pages_218 rfl (lv_at hl 4 rfl) ?_
            refine lv_iconst (v := (2 : Int32)) hx hb dL_pages_219 (by decide) ?_
            obtain ⟨q22, h21, h⟩ := Option.bind_eq_some_iff.mp h
            refine kciA (va_runV (As := [.int y3, .int (2 : Int32)]) (rest := []) ⟨hx, hb, hml, hown, hts⟩ (aX9_page l D cI cC cS lo aV vO0 (X) y3 (2 : Int32) h21) (cwV 2 hts gL_pages_X9_page rfl rfl rfl (by decide +kernel) ⟨Nat.le_of_ble_eq_true rfl, Nat.le_of_ble_eq_true rfl⟩) (kpreVA hP hK hN (Nat.le_trans hz hS.1)) rfl rfl hl.1 rfl (lv_room (Nat.le_of_ble_eq_true rfl)) dL_pages_220 ⟨Nat.le_of_ble_eq_true rfl, Nat.le_of_ble_eq_true rfl⟩) hS (fun H locs hP hS => ?_)
            refine lv_iload hx hb dL_pages_223 (lv_at hl 5 rfl) ?_
            refine lv_icmp_ne (tgt := 294) hx hb dL_pages_225 (by decide) (fun g => ?_) (fun g => ?_)
            · rw [if_neg g] at h
              refine lv_iconst (v := (0 : Int32)) hx hb dL_pages_294 (by decide) ?_
              obtain rfl := Option.some.inj h
              exact W.zret (v := (0 : Int32)) hx hb hr rfl (fun t ht hW => ⟨⟨_, (), rfl, rfl, by dsimp only; rw [ht]; exact hP⟩, hS.F ht⟩) hS.2.2 dL_pages_295
            · rw [if_pos g] at h
              refine lv_aload_n hx hb dL_pages_228 rfl (lv_at hl 1 rfl) ?_
              refine lv_iload_n hx hb dL_pages_229 rfl (lv_at hl 4 rfl) ?_
              refine lv_iconst (v := (3 : Int32)) hx hb dL_pages_230 (by decide) ?_
              obtain ⟨q24, h23, h⟩ := Option.bind_eq_some_iff.mp h
              refine kciA (va_runV (As := [.int y3, .int (3 : Int32)]) (rest := []) ⟨hx, hb, hml, hown, hts⟩ (aX9_page l D cI cC cS lo aV vO0 (X) y3 (3 : Int32) h23) (cwV 2 hts gL_pages_X9_page rfl rfl rfl (by decide +kernel) ⟨Nat.le_of_ble_eq_true rfl, Nat.le_of_ble_eq_true rfl⟩) (kpreVA hP hK hN (Nat.le_trans hz hS.1)) rfl rfl hl.1 rfl (lv_room (Nat.le_of_ble_eq_true rfl)) dL_pages_231 ⟨Nat.le_of_ble_eq_true rfl, Nat.le_of_ble_eq_true rfl⟩) hS (fun H locs hP hS => ?_)
              refine lv_iload hx hb dL_pages_234 (lv_at hl 0 rfl) ?_
              refine lv_icmp_ne (tgt := 294) hx hb dL_pages_236 (by decide) (fun g => ?_) (fun g => ?_)
              · rw [if_neg g] at h
                refine lv_iconst (v := (0 : Int32)) hx hb dL_pages_294 (by decide) ?_
                obtain rfl := Option.some.inj h
                exact W.zret (v := (0 : Int32)) hx hb hr rfl (fun t ht hW => ⟨⟨_, (), rfl, rfl, by dsimp only; rw [ht]; exact hP⟩, hS.F ht⟩) hS.2.2 dL_pages_295
              · rw [if_pos g] at h
                refine lv_aload_n hx hb dL_pages_239 rfl (lv_at hl 1 rfl) ?_
                refine lv_iload_n hx hb dL_pages_240 rfl (lv_at hl 4 rfl) ?_
                refine lv_iconst (v := (4 : Int32)) hx hb dL_pages_241 (by decide) ?_
                obtain ⟨q26, h25, h⟩ := Option.bind_eq_some_iff.mp h
                refine kciA (va_runV (As := [.int y3, .int (4 : Int32)]) (rest := []) ⟨hx, hb, hml, hown, hts⟩ (aX9_page l D cI cC cS lo aV vO0 (X) y3 (4 : Int32) h25) (cwV 2 hts gL_pages_X9_page rfl rfl rfl (by decide +kernel) ⟨Nat.le_of_ble_eq_true rfl, Nat.le_of_ble_eq_true rfl⟩) (kpreVA hP hK hN (Nat.le_trans hz hS.1)) rfl rfl hl.1 rfl (lv_room (Nat.le_of_ble_eq_true rfl)) dL_pages_242 ⟨Nat.le_of_ble_eq_true rfl, Nat.le_of_ble_eq_true rfl⟩) hS (fun H locs hP hS => ?_)
                refine lv_iload hx hb dL_pages_245 (lv_at hl 5 rfl) ?_
                refine lv_iload hx hb dL_pages_247 (lv_at hl 0 rfl) ?_
                refine lv_iadd hx hb dL_pages_249 ?_
                refine lv_iload_n hx hb dL_pages_250 rfl (lv_at hl 2 rfl) ?_
                refine lv_icmp_le (tgt := 258) hx hb dL_pages_251 (by decide) (fun g => ?_) (fun g => ?_)
                · rw [if_pos g] at h
                  refine lv_iconst (v := (0 : Int32)) hx hb dL_pages_258 (by decide) ?_
                  exact j259 y1 y2 y3 y4 y5 y6 q26 (0 : Int32) _ _ _ h hP hS (lv_sub hl [1, 2, 3, 4, 5, 6, 7] rfl)
                · rw [if_neg g] at h
                  refine lv_iconst (v := (1 : Int32)) hx hb dL_pages_254 (by decide) ?_
                  refine lv_goto (tgt := 259) hx hb dL_pages_255 (by decide) ?_
                  exact j259 y1 y2 y3 y4 y5 y6 q26 (1 : Int32) _ _ _ h hP hS (lv_sub hl [1, 2, 3, 4, 5, 6, 7] rfl)
      have j184 : ∀ (y1 : Int32) (y2 : Int32) (y3 : Int32) (y4 : Int32) (y5 : Int32) (y6 : Int32) (t0 : Int32) (H : Heap) (locs : List Loc) (ls : Array Slot), pL_pages_j184 vO0 (pL_pages_L17 vO0 nL17) y1 y2 y3 y4 y5 y6 t0 = some q → (aW D cI cC cS lo aV vO0 X) H → va_S (fun q => lo ≤ q) s.heap H locs → lv_has ls 11 [(0, .ref aV), (1, .int y1), (2, .int y2), (3, .int y3), (4, .int y4), (5, .int y5), (6, .int y6)] → W p l e ({ frames := 7, cells := 0, slots := 0, locals := 160 } : Room) s m ([.ref aV, .int i2] : List Value).toArray below meth c H locs 0 0 (MQ below (va_Qi (fun (r : Int32) (_ : Unit) => r = q) (fun _ t => (aW D cI cC cS lo aV vO0 X) t.heap) (fun q => lo ≤ q)) ([.ref aV, .int i2] : List Value).toArray s 0 0 (fun q => lo ≤ q)) (F0 m 184 ls [.int t0]) := by
        skip
        intro y1 y2 y3 y4 y5 y6 t0 H locs ls h hP hS hl
        unfold pL_pages_j184 at h
        refine lv_istore (lv' := [(9, .int t0), (0, .ref aV), (1, .int y1), (2, .int y2), (3, .int y3), (4, .int y4), (5, .int y5), (6, .int y6)]) hx hb dL_pages_184 hl (by decide) rfl (fun ls hl => ?_)
        refine lv_iload hx hb dL_pages_186 (lv_at hl 6 rfl) ?_
        refine lv_if_le (tgt := 198) hx hb dL_pages_188 (by decide) (fun g => ?_) (fun g => ?_)
        · rw [if_pos g] at h
          refine lv_iconst (v := (0 : Int32)) hx hb dL_pages_198 (by decide) ?_
          exact j199 y1 y2 y3 y4 y5 y6 t0 (0 : Int32) _ _ _ h hP hS (lv_sub hl [1, 2, 3, 4, 5, 6, 7, 0] rfl)
        · rw [if_neg g] at h
          refine lv_iload hx hb dL_pages_191 (lv_at hl 6 rfl) ?_
          refine lv_iconst (v := (1 : Int32)) hx hb dL_pages_193 (by decide) ?_
          refine lv_iadd hx hb dL_pages_194 ?_
          refine lv_goto (tgt := 199) hx hb dL_pages_195 (by decide) ?_
          exact j199 y1 y2 y3 y4 y5 y6 t0 (y5 + (1 : Int32)) _ _ _ h hP hS (lv_sub hl [1, 2, 3, 4, 5, 6, 7, 0] rfl)
      have j179 : ∀ (y1 : Int32) (y2 : Int32) (y3 : Int32) (y4 : Int32) (y5 : Int32) (y6 : Int32) (H : Heap) (locs : List Loc) (ls : Array Slot), pL_pages_j179 vO0 (pL_pages_L17 vO0 nL17) y1 y2 y3 y4 y5 y6 = some q → (aW D cI cC cS lo aV vO0 X) H → va_S (fun q => lo ≤ q) s.heap H locs → lv_has ls 11 [(0, .ref aV), (1, .int y1), (2, .int y2), (3, .int y3), (4, .int y4), (5, .int y5), (6, .int y6)] → W p l e ({ frames := 7, cells := 0, slots := 0, locals := 160 } : Room) s m ([.ref aV, .int i2] : List Value).toArray below meth c H locs 0 0 (MQ below (va_Qi (fun (r : Int32) (_ : Unit) => r = q) (fun _ t => (aW D cI cC cS lo aV vO0 X) t.heap) (fun q => lo ≤ q)) ([.ref aV, .int i2] : List Value).toArray s 0 0 (fun q => lo ≤ q)) (F0 m 179 ls []) := by
        skip
        intro y1 y2 y3 y4 y5 y6 H locs ls h hP hS hl
        unfold pL_pages_j179 at h
        refine lv_iconst (v := (1 : Int32)) hx hb dL_pages_179 (by decide) ?_
        refine lv_goto (tgt := 184) hx hb dL_pages_180 (by decide) ?_
        exact j184 y1 y2 y3 y4 y5 y6 (1 : Int32) _ _ _ h hP hS (lv_sub hl [0, 1, 2, 3, 4, 5, 6] rfl)
      have j132 : ∀ (y1 : Int32) (y2 : Int32) (y3 : Int32) (y4 : Int32) (y5 : Int32) (y6 : Int32) (H : Heap) (locs : List Loc) (ls : Array Slot), pL_pages_j132 vO0 (pL_pages_L17 vO0 nL17) y1 y2 y3 y4 y5 y6 = some q → (aW D cI cC cS lo aV vO0 X) H → va_S (fun q => lo ≤ q) s.heap H locs → lv_has ls 11 [(0, .ref aV), (1, .int y1), (2, .int y2), (3, .int y3), (4, .int y4), (5, .int y5), (6, .int y6)] → W p l e ({ frames := 7, cells := 0, slots := 0, locals := 160 } : Room) s m ([.ref aV, .int i2] : List Value).toArray below meth c H locs 0 0 (MQ below (va_Qi (fun (r : Int32) (_ : Unit) => r = q) (fun _ t => (aW D cI cC cS lo aV vO0 X) t.heap) (fun q => lo ≤ q)) ([.ref aV, .int i2] : List Value).toArray s 0 0 (fun q => lo ≤ q)) (F0 m 132 ls []) := by
        skip
        intro y1 y2 y3 y4 y5 y6 H locs ls h hP hS hl
        unfold pL_pages_j132 at h
        refine lv_iload hx hb dL_pages_132 (lv_at hl 4 rfl) ?_
        refine lv_aload_n hx hb dL_pages_134 rfl (lv_at hl 0 rfl) ?_
        refine lv_iload hx hb dL_pages_135 (lv_at hl 6 rfl) ?_
        refine lv_iconst (v := (5 : Int32)) hx hb dL_pages_137 (by decide) ?_
        obtain ⟨q16, h15, h⟩ := Option.bind_eq_some_iff.mp h
        refine kciA (va_runV (As := [.int y6, .int (5 : Int32)]) (rest := [.int y4]) ⟨hx, hb, hml, hown, hts⟩ (aX9_group l D cI cC cS lo aV vO0 (X) y6 (5 : Int32) h15) (cwV 2 hts gL_pages_X9_group rfl rfl rfl (by decide +kernel) ⟨Nat.le_of_ble_eq_true rfl, Nat.le_of_ble_eq_true rfl⟩) (kpreVA hP hK hN (Nat.le_trans hz hS.1)) rfl rfl hl.1 rfl (lv_room (Nat.le_of_ble_eq_true rfl)) dL_pages_138 ⟨Nat.le_of_ble_eq_true rfl, Nat.le_of_ble_eq_true rfl⟩) hS (fun H locs hP hS => ?_)
        refine lv_iadd hx hb dL_pages_141 ?_
        refine lv_istore (lv' := [(4, .int (y4 + q16)), (0, .ref aV), (1, .int y1), (2, .int y2), (3, .int y3), (5, .int y5), (6, .int y6)]) hx hb dL_pages_142 hl (by decide) rfl (fun ls hl => ?_)
        refine lv_iload hx hb dL_pages_144 (lv_at hl 5 rfl) ?_
        refine lv_aload_n hx hb dL_pages_146 rfl (lv_at hl 1 rfl) ?_
        refine lv_iload hx hb dL_pages_147 (lv_at hl 6 rfl) ?_
        refine lv_bipush (v := (8 : Int32)) hx hb dL_pages_149 (by decide) ?_
        obtain ⟨q18, h17, h⟩ := Option.bind_eq_some_iff.mp h
        refine kciA (va_runV (As := [.int y6, .int (8 : Int32)]) (rest := [.int y5]) ⟨hx, hb, hml, hown, hts⟩ (aX9_group l D cI cC cS lo aV vO0 (X) y6 (8 : Int32) h17) (cwV 2 hts gL_pages_X9_group rfl rfl rfl (by decide +kernel) ⟨Nat.le_of_ble_eq_true rfl, Nat.le_of_ble_eq_true rfl⟩) (kpreVA hP hK hN (Nat.le_trans hz hS.1)) rfl rfl hl.1 rfl (lv_room (Nat.le_of_ble_eq_true rfl)) dL_pages_151 ⟨Nat.le_of_ble_eq_true rfl, Nat.le_of_ble_eq_true rfl⟩) hS (fun H locs hP hS => ?_)
        refine lv_iadd hx hb dL_pages_154 ?_
        refine lv_istore (lv' := [(5, .int (y5 + q18)), (4, .int (y4 + q16)), (0, .ref aV), (1, .int y1), (2, .int y2), (3, .int y3), (6, .int y6)]) hx hb dL_pages_155 hl (by decide) rfl (fun ls hl => ?_)
        refine lv_iload hx hb dL_pages_157 (lv_at hl 6 rfl) ?_
        refine lv_iload_n hx hb dL_pages_159 rfl (lv_at hl 4 rfl) ?_
        refine lv_iconst (v := (1 : Int32)) hx hb dL_pages_160 (by decide) ?_
        refine lv_isub hx hb dL_pages_161 ?_
        refine lv_icmp_eq (tgt := 179) hx hb dL_pages_162 (by decide) (fun g => ?_) (fun g => ?_)
        · rw [if_pos g] at h
          exact j179 y1 y2 y3 (y4 + q16) (y5 + q18) y6 _ _ _ h hP hS (lv_sub hl [2, 3, 4, 5, 1, 0, 6] rfl)
        · rw [if_neg g] at h
          refine lv_aload_n hx hb dL_pages_165 rfl (lv_at hl 2 rfl) ?_
          refine lv_iload hx hb dL_pages_166 (lv_at hl 6 rfl) ?_
          refine lv_iconst (v := (1 : Int32)) hx hb dL_pages_168 (by decide) ?_
          refine lv_iadd hx hb dL_pages_169 ?_
          refine lv_bipush (v := (6 : Int32)) hx hb dL_pages_170 (by decide) ?_
          obtain ⟨q34, h33, h⟩ := Option.bind_eq_some_iff.mp h
          refine kciA (va_runV (As := [.int (y6 + (1 : Int32)), .int (6 : Int32)]) (rest := []) ⟨hx, hb, hml, hown, hts⟩ (aX9_group l D cI cC cS lo aV vO0 (X) (y6 + (1 : Int32)) (6 : Int32) h33) (cwV 2 hts gL_pages_X9_group rfl rfl rfl (by decide +kernel) ⟨Nat.le_of_ble_eq_true rfl, Nat.le_of_ble_eq_true rfl⟩) (kpreVA hP hK hN (Nat.le_trans hz hS.1)) rfl rfl hl.1 rfl (lv_room (Nat.le_of_ble_eq_true rfl)) dL_pages_172 ⟨Nat.le_of_ble_eq_true rfl, Nat.le_of_ble_eq_true rfl⟩) hS (fun H locs hP hS => ?_)
          refine lv_iload_n hx hb dL_pages_175 rfl (lv_at hl 5 rfl) ?_
          refine lv_icmp_le (tgt := 183) hx hb dL_pages_176 (by decide) (fun g => ?_) (fun g => ?_)
          · rw [if_pos g] at h
            refine lv_iconst (v := (0 : Int32)) hx hb dL_pages_183 (by decide) ?_
            exact j184 y1 y2 y3 (y4 + q16) (y5 + q18) y6 (0 : Int32) _ _ _ h hP hS (lv_sub hl [2, 3, 4, 5, 1, 0, 6] rfl)
          · rw [if_neg g] at h
            exact j179 y1 y2 y3 (y4 + q16) (y5 + q18) y6 _ _ _ h hP hS (lv_sub hl [2, 3, 4, 5, 1, 0, 6] rfl)
      have j89 : ∀ (y1 : Int32) (y2 : Int32) (y3 : Int32) (y4 : Int32) (y5 : Int32) (y6 : Int32) (y8 : Int32) (H : Heap) (locs : List Loc) (ls : Array Slot), pL_pages_j89 vO0 (pL_pages_L17 vO0 nL17) y1 y2 y3 y4 y5 y6 y8 = some q → (aW D cI cC cS lo aV vO0 X) H → va_S (fun q => lo ≤ q) s.heap H locs → lv_has ls 11 [(0, .ref aV), (1, .int y1), (2, .int y2), (3, .int y3), (4, .int y4), (5, .int y5), (6, .int y6), (8, .int y8)] → W p l e ({ frames := 7, cells := 0, slots := 0, locals := 160 } : Room) s m ([.ref aV, .int i2] : List Value).toArray below meth c H locs 0 0 (MQ below (va_Qi (fun (r : Int32) (_ : Unit) => r = q) (fun _ t => (aW D cI cC cS lo aV vO0 X) t.heap) (fun q => lo ≤ q)) ([.ref aV, .int i2] : List Value).toArray s 0 0 (fun q => lo ≤ q)) (F0 m 89 ls []) := by
        skip
        intro y1 y2 y3 y4 y5 y6 y8 H locs ls h hP hS hl
        unfold pL_pages_j89 at h
        refine lv_aload_n hx hb dL_pages_89 rfl (lv_at hl 0 rfl) ?_
        refine lv_iload hx hb dL_pages_90 (lv_at hl 6 rfl) ?_
        refine lv_bipush (v := (6 : Int32)) hx hb dL_pages_92 (by decide) ?_
        obtain ⟨q12, h11, h⟩ := Option.bind_eq_some_iff.mp h
        refine kciA (va_runV (As := [.int y6, .int (6 : Int32)]) (rest := []) ⟨hx, hb, hml, hown, hts⟩ (aX9_group l D cI cC cS lo aV vO0 (X) y6 (6 : Int32) h11) (cwV 2 hts gL_pages_X9_group rfl rfl rfl (by decide +kernel) ⟨Nat.le_of_ble_eq_true rfl, Nat.le_of_ble_eq_true rfl⟩) (kpreVA hP hK hN (Nat.le_trans hz hS.1)) rfl rfl hl.1 rfl (lv_room (Nat.le_of_ble_eq_true rfl)) dL_pages_94 ⟨Nat.le_of_ble_eq_true rfl, Nat.le_of_ble_eq_true rfl⟩) hS (fun H locs hP hS => ?_)
        refine lv_iload_n hx hb dL_pages_97 rfl (lv_at hl 3 rfl) ?_
        refine lv_icmp_ne (tgt := 130) hx hb dL_pages_98 (by decide) (fun g => ?_) (fun g => ?_)
        · rw [if_neg g] at h
          refine lv_iconst (v := (0 : Int32)) hx hb dL_pages_130 (by decide) ?_
          obtain rfl := Option.some.inj h
          exact W.zret (v := (0 : Int32)) hx hb hr rfl (fun t ht hW => ⟨⟨_, (), rfl, rfl, by dsimp only; rw [ht]; exact hP⟩, hS.F ht⟩) hS.2.2 dL_pages_131
        · rw [if_pos g] at h
          refine lv_aload_n hx hb dL_pages_101 rfl (lv_at hl 0 rfl) ?_
          refine lv_iload hx hb dL_pages_102 (lv_at hl 6 rfl) ?_
          refine lv_bipush (v := (7 : Int32)) hx hb dL_pages_104 (by decide) ?_
          obtain ⟨q14, h13, h⟩ := Option.bind_eq_some_iff.mp h
          refine kciA (va_runV (As := [.int y6, .int (7 : Int32)]) (rest := []) ⟨hx, hb, hml, hown, hts⟩ (aX9_group l D cI cC cS lo aV vO0 (X) y6 (7 : Int32) h13) (cwV 2 hts gL_pages_X9_group rfl rfl rfl (by decide +kernel) ⟨Nat.le_of_ble_eq_true rfl, Nat.le_of_ble_eq_true rfl⟩) (kpreVA hP hK hN (Nat.le_trans hz hS.1)) rfl rfl hl.1 rfl (lv_room (Nat.le_of_ble_eq_true rfl)) dL_pages_106 ⟨Nat.le_of_ble_eq_true rfl, Nat.le_of_ble_eq_true rfl⟩) hS (fun H locs hP hS => ?_)
          refine lv_iload hx hb dL_pages_109 (lv_at hl 4 rfl) ?_
          refine lv_icmp_ne (tgt := 130) hx hb dL_pages_111 (by decide) (fun g => ?_) (fun g => ?_)
          · rw [if_neg g] at h
            refine lv_iconst (v := (0 : Int32)) hx hb dL_pages_130 (by decide) ?_
            obtain rfl := Option.some.inj h
            exact W.zret (v := (0 : Int32)) hx hb hr rfl (fun t ht hW => ⟨⟨_, (), rfl, rfl, by dsimp only; rw [ht]; exact hP⟩, hS.F ht⟩) hS.2.2 dL_pages_131
          · rw [if_pos g] at h
            refine lv_iload hx hb dL_pages_114 (lv_at hl 7 rfl) ?_
            refine lv_if_eq (tgt := 132) hx hb dL_pages_116 (by decide) (fun g => ?_) (fun g => ?_)
            · rw [if_pos g] at h
              exact j132 y1 y2 y3 y4 y5 y6 _ _ _ h hP hS (lv_sub hl [0, 1, 2, 3, 4, 5, 6] rfl)
            · rw [if_neg g] at h
              refine lv_aload_n hx hb dL_pages_119 rfl (lv_at hl 0 rfl) ?_
              refine lv_iload_n hx hb dL_pages_120 rfl (lv_at hl 3 rfl) ?_
              refine lv_iconst (v := (0 : Int32)) hx hb dL_pages_121 (by decide) ?_
              obtain ⟨q36, h35, h⟩ := Option.bind_eq_some_iff.mp h
              refine kciA (va_runV (As := [.int y3, .int (0 : Int32)]) (rest := []) ⟨hx, hb, hml, hown, hts⟩ (aX9_page l D cI cC cS lo aV vO0 (X) y3 (0 : Int32) h35) (cwV 2 hts gL_pages_X9_page rfl rfl rfl (by decide +kernel) ⟨Nat.le_of_ble_eq_true rfl, Nat.le_of_ble_eq_true rfl⟩) (kpreVA hP hK hN (Nat.le_trans hz hS.1)) rfl rfl hl.1 rfl (lv_room (Nat.le_of_ble_eq_true rfl)) dL_pages_122 ⟨Nat.le_of_ble_eq_true rfl, Nat.le_of_ble_eq_true rfl⟩) hS (fun H locs hP hS => ?_)
              refine lv_iload hx hb dL_pages_125 (lv_at hl 6 rfl) ?_
              refine lv_icmp_eq (tgt := 132) hx hb dL_pages_127 (by decide) (fun g => ?_) (fun g => ?_)
              · rw [if_pos g] at h
                exact j132 y1 y2 y3 y4 y5 y6 _ _ _ h hP hS (lv_sub hl [0, 1, 2, 3, 4, 5, 6] rfl)
              · rw [if_neg g] at h
                refine lv_iconst (v := (0 : Int32)) hx hb dL_pages_130 (by decide) ?_
                obtain rfl := Option.some.inj h
                exact W.zret (v := (0 : Int32)) hx hb hr rfl (fun t ht hW => ⟨⟨_, (), rfl, rfl, by dsimp only; rw [ht]; exact hP⟩, hS.F ht⟩) hS.2.2 dL_pages_131
      have j73 : ∀ (y1 : Int32) (y2 : Int32) (y3 : Int32) (y4 : Int32) (y5 : Int32) (y6 : Int32) (t0 : Int32) (H : Heap) (locs : List Loc) (ls : Array Slot), pL_pages_j73 vO0 (pL_pages_L17 vO0 nL17) y1 y2 y3 y4 y5 y6 t0 = some q → (aW D cI cC cS lo aV vO0 X) H → va_S (fun q => lo ≤ q) s.heap H locs → lv_has ls 11 [(0, .ref aV), (1, .int y1), (2, .int y2), (3, .int y3), (4, .int y4), (5, .int y5), (6, .int y6)] → W p l e ({ frames := 7, cells := 0, slots := 0, locals := 160 } : Room) s m ([.ref aV, .int i2] : List Value).toArray below meth c H locs 0 0 (MQ below (va_Qi (fun (r : Int32) (_ : Unit) => r = q) (fun _ t => (aW D cI cC cS lo aV vO0 X) t.heap) (fun q => lo ≤ q)) ([.ref aV, .int i2] : List Value).toArray s 0 0 (fun q => lo ≤ q)) (F0 m 73 ls [.int t0]) := by
        skip
        intro y1 y2 y3 y4 y5 y6 t0 H locs ls h hP hS hl
        unfold pL_pages_j73 at h
        refine lv_istore (lv' := [(8, .int t0), (0, .ref aV), (1, .int y1), (2, .int y2), (3, .int y3), (4, .int y4), (5, .int y5), (6, .int y6)]) hx hb dL_pages_73 hl (by decide) rfl (fun ls hl => ?_)
        refine lv_iload hx hb dL_pages_75 (lv_at hl 0 rfl) ?_
        refine lv_if_eq (tgt := 89) hx hb dL_pages_77 (by decide) (fun g => ?_) (fun g => ?_)
        · rw [if_pos g] at h
          exact j89 y1 y2 y3 y4 y5 y6 t0 _ _ _ h hP hS (lv_sub hl [1, 2, 3, 4, 5, 6, 7, 0] rfl)
        · rw [if_neg g] at h
          refine lv_iinc (v := (y3 + (1 : Int32))) (lv' := [(3, .int (y3 + (1 : Int32))), (8, .int t0), (0, .ref aV), (1, .int y1), (2, .int y2), (4, .int y4), (5, .int y5), (6, .int y6)]) hx hb dL_pages_80 hl (k := 4) rfl rfl (by decide) rfl (fun ls hl => ?_)
          refine lv_iconst (v := (0 : Int32)) hx hb dL_pages_83 (by decide) ?_
          refine lv_istore (lv' := [(4, .int (0 : Int32)), (3, .int (y3 + (1 : Int32))), (8, .int t0), (0, .ref aV), (1, .int y1), (2, .int y2), (5, .int y5), (6, .int y6)]) hx hb dL_pages_84 hl (by decide) rfl (fun ls hl => ?_)
          refine lv_iconst (v := (0 : Int32)) hx hb dL_pages_86 (by decide) ?_
          refine lv_istore (lv' := [(5, .int (0 : Int32)), (4, .int (0 : Int32)), (3, .int (y3 + (1 : Int32))), (8, .int t0), (0, .ref aV), (1, .int y1), (2, .int y2), (6, .int y6)]) hx hb dL_pages_87 hl (by decide) rfl (fun ls hl => ?_)
          exact j89 y1 y2 (y3 + (1 : Int32)) (0 : Int32) (0 : Int32) y6 t0 _ _ _ h hP hS (lv_sub hl [4, 5, 6, 2, 1, 0, 7, 3] rfl)
      have j68 : ∀ (y1 : Int32) (y2 : Int32) (y3 : Int32) (y4 : Int32) (y5 : Int32) (y6 : Int32) (H : Heap) (locs : List Loc) (ls : Array Slot), pL_pages_j68 vO0 (pL_pages_L17 vO0 nL17) y1 y2 y3 y4 y5 y6 = some q → (aW D cI cC cS lo aV vO0 X) H → va_S (fun q => lo ≤ q) s.heap H locs → lv_has ls 11 [(0, .ref aV), (1, .int y1), (2, .int y2), (3, .int y3), (4, .int y4), (5, .int y5), (6, .int y6)] → W p l e ({ frames := 7, cells := 0, slots := 0, locals := 160 } : Room) s m ([.ref aV, .int i2] : List Value).toArray below meth c H locs 0 0 (MQ below (va_Qi (fun (r : Int32) (_ : Unit) => r = q) (fun _ t => (aW D cI cC cS lo aV vO0 X) t.heap) (fun q => lo ≤ q)) ([.ref aV, .int i2] : List Value).toArray s 0 0 (fun q => lo ≤ q)) (F0 m 68 ls []) := by
        skip
        intro y1 y2 y3 y4 y5 y6 H locs ls h hP hS hl
        unfold pL_pages_j68 at h
        refine lv_iconst (v := (1 : Int32)) hx hb dL_pages_68 (by decide) ?_
        refine lv_goto (tgt := 73) hx hb dL_pages_69 (by decide) ?_
        exact j73 y1 y2 y3 y4 y5 y6 (1 : Int32) _ _ _ h hP hS (lv_sub hl [0, 1, 2, 3, 4, 5, 6] rfl)
      have j63 : ∀ (y1 : Int32) (y2 : Int32) (y3 : Int32) (y4 : Int32) (y5 : Int32) (y6 : Int32) (t0 : Int32) (t1 : Int32) (H : Heap) (locs : List Loc) (ls : Array Slot), pL_pages_j63 vO0 (pL_pages_L17 vO0 nL17) y1 y2 y3 y4 y5 y6 t0 t1 = some q → (aW D cI cC cS lo aV vO0 X) H → va_S (fun q => lo ≤ q) s.heap H locs → lv_has ls 11 [(0, .ref aV), (1, .int y1), (2, .int y2), (3, .int y3), (4, .int y4), (5, .int y5), (6, .int y6)] → W p l e ({ frames := 7, cells := 0, slots := 0, locals := 160 } : Room) s m ([.ref aV, .int i2] : List Value).toArray below meth c H locs 0 0 (MQ below (va_Qi (fun (r : Int32) (_ : Unit) => r = q) (fun _ t => (aW D cI cC cS lo aV vO0 X) t.heap) (fun q => lo ≤ q)) ([.ref aV, .int i2] : List Value).toArray s 0 0 (fun q => lo ≤ q)) (F0 m 63 ls [.int t1, .int t0]) := by
        skip
        intro y1 y2 y3 y4 y5 y6 t0 t1 H locs ls h hP hS hl
        unfold pL_pages_j63 at h
        refine lv_iadd hx hb dL_pages_63 ?_
        refine lv_iload_n hx hb dL_pages_64 rfl (lv_at hl 1 rfl) ?_
        refine lv_icmp_le (tgt := 72) hx hb dL_pages_65 (by decide) (fun g => ?_) (fun g => ?_)
        · rw [if_pos g] at h
          refine lv_iconst (v := (0 : Int32)) hx hb dL_pages_72 (by decide) ?_
          exact j73 y1 y2 y3 y4 y5 y6 (0 : Int32) _ _ _ h hP hS (lv_sub hl [0, 1, 2, 3, 4, 5, 6] rfl)
        · rw [if_neg g] at h
          exact j68 y1 y2 y3 y4 y5 y6 _ _ _ h hP hS (lv_sub hl [0, 1, 2, 3, 4, 5, 6] rfl)
      intro y1 y2 y3 y4 y5 y6 H locs ls h hP hS hl
      have h : pL_pages_bL17 vO0 (pL_pages_L17 vO0 nL17) y1 y2 y3 y4 y5 y6 = some q := h
      unfold pL_pages_bL17 at h
      refine lv_iload hx hb dL_pages_17 (lv_at hl 6 rfl) ?_
      refine lv_iload_n hx hb dL_pages_19 rfl (lv_at hl 2 rfl) ?_
      refine lv_icmp_ge (tgt := 302) hx hb dL_pages_20 (by decide) (fun g => ?_) (fun g => ?_)
      · rw [if_pos g] at h
        refine lv_aload_n hx hb dL_pages_302 rfl (lv_at hl 0 rfl) ?_
        refine lv_bipush (v := (9 : Int32)) hx hb dL_pages_303 (by decide) ?_
        obtain ⟨q4, h3, h⟩ := Option.bind_eq_some_iff.mp h
        refine kciA (va_runV (As := [.int (9 : Int32)]) (rest := []) ⟨hx, hb, hml, hown, hts⟩ (aX9_count l D cI cC cS lo aV vO0 (X) (9 : Int32) h3) (cwV 1 hts gL_pages_X9_count rfl rfl rfl (by decide +kernel) ⟨Nat.le_of_ble_eq_true rfl, Nat.le_of_ble_eq_true rfl⟩) (kpreVA hP hK hN (Nat.le_trans hz hS.1)) rfl rfl hl.1 rfl (lv_room (Nat.le_of_ble_eq_true rfl)) dL_pages_305 ⟨Nat.le_of_ble_eq_true rfl, Nat.le_of_ble_eq_true rfl⟩) hS (fun H locs hP hS => ?_)
        refine lv_iload_n hx hb dL_pages_308 rfl (lv_at hl 3 rfl) ?_
        refine lv_iconst (v := (1 : Int32)) hx hb dL_pages_309 (by decide) ?_
        refine lv_iadd hx hb dL_pages_310 ?_
        refine lv_icmp_ne (tgt := 342) hx hb dL_pages_311 (by decide) (fun g => ?_) (fun g => ?_)
        · rw [if_neg g] at h
          refine lv_iconst (v := (0 : Int32)) hx hb dL_pages_342 (by decide) ?_
          obtain rfl := Option.some.inj h
          exact W.zret (v := (0 : Int32)) hx hb hr rfl (fun t ht hW => ⟨⟨_, (), rfl, rfl, by dsimp only; rw [ht]; exact hP⟩, hS.F ht⟩) hS.2.2 dL_pages_343
        · rw [if_pos g] at h
          refine lv_aload_n hx hb dL_pages_314 rfl (lv_at hl 0 rfl) ?_
          refine lv_iload_n hx hb dL_pages_315 rfl (lv_at hl 3 rfl) ?_
          refine lv_iconst (v := (1 : Int32)) hx hb dL_pages_316 (by decide) ?_
          refine lv_iadd hx hb dL_pages_317 ?_
          refine lv_iconst (v := (0 : Int32)) hx hb dL_pages_318 (by decide) ?_
          obtain ⟨q6, h5, h⟩ := Option.bind_eq_some_iff.mp h
          refine kciA (va_runV (As := [.int (y3 + (1 : Int32)), .int (0 : Int32)]) (rest := []) ⟨hx, hb, hml, hown, hts⟩ (aX9_page l D cI cC cS lo aV vO0 (X) (y3 + (1 : Int32)) (0 : Int32) h5) (cwV 2 hts gL_pages_X9_page rfl rfl rfl (by decide +kernel) ⟨Nat.le_of_ble_eq_true rfl, Nat.le_of_ble_eq_true rfl⟩) (kpreVA hP hK hN (Nat.le_trans hz hS.1)) rfl rfl hl.1 rfl (lv_room (Nat.le_of_ble_eq_true rfl)) dL_pages_319 ⟨Nat.le_of_ble_eq_true rfl, Nat.le_of_ble_eq_true rfl⟩) hS (fun H locs hP hS => ?_)
          refine lv_bipush (v := (-5 : Int32)) hx hb dL_pages_322 (by decide) ?_
          refine lv_icmp_ne (tgt := 342) hx hb dL_pages_324 (by decide) (fun g => ?_) (fun g => ?_)
          · rw [if_neg g] at h
            refine lv_iconst (v := (0 : Int32)) hx hb dL_pages_342 (by decide) ?_
            obtain rfl := Option.some.inj h
            exact W.zret (v := (0 : Int32)) hx hb hr rfl (fun t ht hW => ⟨⟨_, (), rfl, rfl, by dsimp only; rw [ht]; exact hP⟩, hS.F ht⟩) hS.2.2 dL_pages_343
          · rw [if_pos g] at h
            refine lv_aload_n hx hb dL_pages_327 rfl (lv_at hl 0 rfl) ?_
            refine lv_iconst (v := (-1 : Int32)) hx hb dL_pages_328 (by decide) ?_
            refine lv_iconst (v := (0 : Int32)) hx hb dL_pages_329 (by decide) ?_
            obtain ⟨q8, h7, h⟩ := Option.bind_eq_some_iff.mp h
            refine kciA (va_runV (As := [.int (-1 : Int32), .int (0 : Int32)]) (rest := []) ⟨hx, hb, hml, hown, hts⟩ (aX9_page l D cI cC cS lo aV vO0 (X) (-1 : Int32) (0 : Int32) h7) (cwV 2 hts gL_pages_X9_page rfl rfl rfl (by decide +kernel) ⟨Nat.le_of_ble_eq_true rfl, Nat.le_of_ble_eq_true rfl⟩) (kpreVA hP hK hN (Nat.le_trans hz hS.1)) rfl rfl hl.1 rfl (lv_room (Nat.le_of_ble_eq_true rfl)) dL_pages_330 ⟨Nat.le_of_ble_eq_true rfl, Nat.le_of_ble_eq_true rfl⟩) hS (fun H locs hP hS => ?_)
            refine lv_bipush (v := (-2 : Int32)) hx hb dL_pages_333 (by decide) ?_
            refine lv_icmp_ne (tgt := 342) hx hb dL_pages_335 (by decide) (fun g => ?_) (fun g => ?_)
            · rw [if_neg g] at h
              refine lv_iconst (v := (0 : Int32)) hx hb dL_pages_342 (by decide) ?_
              obtain rfl := Option.some.inj h
              exact W.zret (v := (0 : Int32)) hx hb hr rfl (fun t ht hW => ⟨⟨_, (), rfl, rfl, by dsimp only; rw [ht]; exact hP⟩, hS.F ht⟩) hS.2.2 dL_pages_343
            · rw [if_pos g] at h
              refine lv_iconst (v := (1 : Int32)) hx hb dL_pages_338 (by decide) ?_
              refine lv_goto (tgt := 343) hx hb dL_pages_339 (by decide) ?_
              obtain rfl := Option.some.inj h
              exact W.zret (v := (1 : Int32)) hx hb hr rfl (fun t ht hW => ⟨⟨_, (), rfl, rfl, by dsimp only; rw [ht]; exact hP⟩, hS.F ht⟩) hS.2.2 dL_pages_343
      · rw [if_neg g] at h
        refine lv_iload hx hb dL_pages_23 (lv_at hl 5 rfl) ?_
        refine lv_aload_n hx hb dL_pages_25 rfl (lv_at hl 0 rfl) ?_
        refine lv_iload hx hb dL_pages_26 (lv_at hl 6 rfl) ?_
        refine lv_bipush (v := (8 : Int32)) hx hb dL_pages_28 (by decide) ?_
        obtain ⟨q10, h9, h⟩ := Option.bind_eq_some_iff.mp h
        refine kciA (va_runV (As := [.int y6, .int (8 : Int32)]) (rest := [.int y5]) ⟨hx, hb, hml, hown, hts⟩ (aX9_group l D cI cC cS lo aV vO0 (X) y6 (8 : Int32) h9) (cwV 2 hts gL_pages_X9_group rfl rfl rfl (by decide +kernel) ⟨Nat.le_of_ble_eq_true rfl, Nat.le_of_ble_eq_true rfl⟩) (kpreVA hP hK hN (Nat.le_trans hz hS.1)) rfl rfl hl.1 rfl (lv_room (Nat.le_of_ble_eq_true rfl)) dL_pages_30 ⟨Nat.le_of_ble_eq_true rfl, Nat.le_of_ble_eq_true rfl⟩) hS (fun H locs hP hS => ?_)
        refine lv_iadd hx hb dL_pages_33 ?_
        refine lv_istore (lv' := [(7, .int (y5 + q10)), (0, .ref aV), (1, .int y1), (2, .int y2), (3, .int y3), (4, .int y4), (5, .int y5), (6, .int y6)]) hx hb dL_pages_34 hl (by decide) rfl (fun ls hl => ?_)
        refine lv_iload_n hx hb dL_pages_36 rfl (lv_at hl 4 rfl) ?_
        refine lv_if_lt (tgt := 68) hx hb dL_pages_37 (by decide) (fun g => ?_) (fun g => ?_)
        · rw [if_pos g] at h
          exact j68 y1 y2 y3 y4 y5 y6 _ _ _ h hP hS (lv_sub hl [1, 2, 3, 4, 5, 6, 7] rfl)
        · rw [if_neg g] at h
          refine lv_iload hx hb dL_pages_40 (lv_at hl 5 rfl) ?_
          refine lv_aload_n hx hb dL_pages_42 rfl (lv_at hl 1 rfl) ?_
          refine lv_iload hx hb dL_pages_43 (lv_at hl 7 rfl) ?_
          refine lv_iconst (v := (5 : Int32)) hx hb dL_pages_45 (by decide) ?_
          obtain ⟨q38, h37, h⟩ := Option.bind_eq_some_iff.mp h
          refine kciA (va_runV (As := [.int y6, .int (5 : Int32)]) (rest := [.int y4]) ⟨hx, hb, hml, hown, hts⟩ (aX9_group l D cI cC cS lo aV vO0 (X) y6 (5 : Int32) h37) (cwV 2 hts gL_pages_X9_group rfl rfl rfl (by decide +kernel) ⟨Nat.le_of_ble_eq_true rfl, Nat.le_of_ble_eq_true rfl⟩) (kpreVA hP hK hN (Nat.le_trans hz hS.1)) rfl rfl hl.1 rfl (lv_room (Nat.le_of_ble_eq_true rfl)) dL_pages_46 ⟨Nat.le_of_ble_eq_true rfl, Nat.le_of_ble_eq_true rfl⟩) hS (fun H locs hP hS => ?_)
          refine lv_iadd hx hb dL_pages_49 ?_
          refine lv_iload hx hb dL_pages_50 (lv_at hl 0 rfl) ?_
          refine lv_if_le (tgt := 62) hx hb dL_pages_52 (by decide) (fun g => ?_) (fun g => ?_)
          · rw [if_pos g] at h
            refine lv_iconst (v := (0 : Int32)) hx hb dL_pages_62 (by decide) ?_
            exact j63 y1 y2 y3 y4 y5 y6 (y4 + q38) (0 : Int32) _ _ _ h hP hS (lv_sub hl [1, 2, 3, 4, 5, 6, 7] rfl)
          · rw [if_neg g] at h
            refine lv_iload hx hb dL_pages_55 (lv_at hl 0 rfl) ?_
            refine lv_iconst (v := (1 : Int32)) hx hb dL_pages_57 (by decide) ?_
            refine lv_iadd hx hb dL_pages_58 ?_
            refine lv_goto (tgt := 63) hx hb dL_pages_59 (by decide) ?_
            exact j63 y1 y2 y3 y4 y5 y6 (y4 + q38) ((y5 + q10) + (1 : Int32)) _ _ _ h hP hS (lv_sub hl [1, 2, 3, 4, 5, 6, 7] rfl)
  unfold pL_pages at h
  refine lv_aload_n hx hb dL_pages_0 rfl (lv_at hl 0 rfl) ?_
  refine lv_iconst (v := (4 : Int32)) hx hb dL_pages_1 (by decide) ?_
  obtain ⟨q2, h1, h⟩ := Option.bind_eq_some_iff.mp h
  refine kciA (va_runV (As := [.int (4 : Int32)]) (rest := []) ⟨hx, hb, hml, hown, hts⟩ (aX9_count l D cI cC cS lo aV vO0 (X) (4 : Int32) h1) (cwV 1 hts gL_pages_X9_count rfl rfl rfl (by decide +kernel) ⟨Nat.le_of_ble_eq_true rfl, Nat.le_of_ble_eq_true rfl⟩) (kpreVA hP hK hN (Nat.le_trans hz hS.1)) rfl rfl hl.1 rfl (lv_room (Nat.le_of_ble_eq_true rfl)) dL_pages_2 ⟨Nat.le_of_ble_eq_true rfl, Nat.le_of_ble_eq_true rfl⟩) hS (fun H locs hP hS => ?_)
  refine lv_istore_n (lv' := [(2, .int q2), (0, .ref aV), (1, .int i2)]) hx hb dL_pages_5 rfl hl (by decide) rfl (fun ls hl => ?_)
  refine lv_iconst (v := (-1 : Int32)) hx hb dL_pages_6 (by decide) ?_
  refine lv_istore_n (lv' := [(3, .int (-1 : Int32)), (2, .int q2), (0, .ref aV), (1, .int i2)]) hx hb dL_pages_7 rfl hl (by decide) rfl (fun ls hl => ?_)
  refine lv_iconst (v := (0 : Int32)) hx hb dL_pages_8 (by decide) ?_
  refine lv_istore (lv' := [(4, .int (0 : Int32)), (3, .int (-1 : Int32)), (2, .int q2), (0, .ref aV), (1, .int i2)]) hx hb dL_pages_9 hl (by decide) rfl (fun ls hl => ?_)
  refine lv_iconst (v := (0 : Int32)) hx hb dL_pages_11 (by decide) ?_
  refine lv_istore (lv' := [(5, .int (0 : Int32)), (4, .int (0 : Int32)), (3, .int (-1 : Int32)), (2, .int q2), (0, .ref aV), (1, .int i2)]) hx hb dL_pages_12 hl (by decide) rfl (fun ls hl => ?_)
  refine lv_iconst (v := (0 : Int32)) hx hb dL_pages_14 (by decide) ?_
  refine lv_istore (lv' := [(6, .int (0 : Int32)), (5, .int (0 : Int32)), (4, .int (0 : Int32)), (3, .int (-1 : Int32)), (2, .int q2), (0, .ref aV), (1, .int i2)]) hx hb dL_pages_15 hl (by decide) rfl (fun ls hl => ?_)
  exact L17 4000 i2 q2 (-1 : Int32) (0 : Int32) (0 : Int32) (0 : Int32) _ _ _ h hP hS (lv_sub hl [5, 6, 4, 3, 2, 1, 0] rfl)
set_option maxHeartbeats 8000000 in
set_option maxRecDepth 100000 in
theorem kL_digits (l : Launch) (D : va_G) (cI cC cS : ClassId) (lo aV : Nat) (vO0 : Sg) (X : va_W) (i2 : Int32) {q : Int32 × Sg} (h : pL_digits vO0 i2 = some q) : kAc l yL_digits wsL_digits ({ frames := 3, cells := 0, slots := 0, locals := 64 } : Room) D (kTy cI cC cS) lo [.ref aV, .int i2] (aW D cI cC cS lo aV vO0 X) (aW D cI cC cS lo aV q.2 X) q.1 0 0 := by
  refine Met.ofW (cc := cL_digits) (maxL := 3) (ret := (some .int)) (by decide) rfl ?_
  intro p e s m args below meth c s₁ B hml hv
  obtain ⟨rfl, hP, hK, hN, hz⟩ := hv
  have hx := B.exec
  have hb := B.bytes
  have hr := B.returns
  have hts := atoms_spec (ws := wsL_digits) B.pre
  have hown : s.vm.findClass RL = some m.cls := findClass_of_methodNamed B.named
  have hlocks := B.notSynchronized
  have hS : va_S (fun q => lo ≤ q) s.heap s.heap [] := va_S.rf
  have hl := lv_entry ([.ref aV, .int i2]) (n := 3) (Nat.le_of_ble_eq_true rfl)
  rw [lg_entry_eq]
  generalize (lg_sl ([.ref aV, .int i2]) ++ List.replicate (3 - (lg_sl ([.ref aV, .int i2])).length) Slot.unset).toArray = ls at hl ⊢
  have hl : lv_has ls 3 [(0, .ref aV), (1, .int i2)] := hl
  have j21 : ∀ (c0_0 : Sg) (y1 : Int32) (H : Heap) (locs : List Loc) (ls : Array Slot), pL_digits_j21  c0_0 y1 = some q → (aW D cI cC cS lo aV c0_0 X) H → va_S (fun q => lo ≤ q) s.heap H locs → lv_has ls 3 [(0, .ref aV), (1, .int y1)] → W p l e ({ frames := 3, cells := 0, slots := 0, locals := 64 } : Room) s m ([.ref aV, .int i2] : List Value).toArray below meth c H locs 0 0 (MQ below (va_Qi (fun (r : Int32) (_ : Unit) => r = q.1) (fun _ t => (aW D cI cC cS lo aV q.2 X) t.heap) (fun q => lo ≤ q)) ([.ref aV, .int i2] : List Value).toArray s 0 0 (fun q => lo ≤ q)) (F0 m 21 ls []) := by
    clear h hP hS hl
    intro c0_0 y1 H locs ls h hP hS hl
    unfold pL_digits_j21 at h
    refine lv_aload_n hx hb dL_digits_21 rfl (lv_at hl 0 rfl) ?_
    refine lv_bipush (v := (48 : Int32)) hx hb dL_digits_22 (by decide) ?_
    refine lv_iload_n hx hb dL_digits_24 rfl (lv_at hl 1 rfl) ?_
    refine lv_bipush (v := (10 : Int32)) hx hb dL_digits_25 (by decide) ?_
    obtain ⟨g, h⟩ := kif h
    refine lv_irem hx hb dL_digits_27 g ?_
    refine lv_iadd hx hb dL_digits_28 ?_
    refine lv_i2c (v := kC ((48 : Int32) + (y1 - y1 / (10 : Int32) * (10 : Int32)))) hx hb dL_digits_29 rfl ?_
    obtain ⟨q2, h1, h⟩ := Option.bind_eq_some_iff.mp h
    refine kciA (va_runV (As := [.int (kC ((48 : Int32) + (y1 - y1 / (10 : Int32) * (10 : Int32))))]) (rest := []) ⟨hx, hb, hml, hown, hts⟩ (aX9_type l D cI cC cS lo aV c0_0 (X) (kC ((48 : Int32) + (y1 - y1 / (10 : Int32) * (10 : Int32)))) h1) (cwV 1 hts gL_digits_X9_type rfl rfl rfl (by decide +kernel) ⟨Nat.le_of_ble_eq_true rfl, Nat.le_of_ble_eq_true rfl⟩) (kpreVA hP hK hN (Nat.le_trans hz hS.1)) rfl rfl hl.1 rfl (lv_room (Nat.le_of_ble_eq_true rfl)) dL_digits_30 ⟨Nat.le_of_ble_eq_true rfl, Nat.le_of_ble_eq_true rfl⟩) hS (fun H locs hP hS => ?_)
    refine lv_istore_n (lv' := [(2, .int q2.1), (0, .ref aV), (1, .int y1)]) hx hb dL_digits_33 rfl hl (by decide) rfl (fun ls hl => ?_)
    refine lv_iload_n hx hb dL_digits_34 rfl (lv_at hl 0 rfl) ?_
    obtain rfl := Option.some.inj h
    exact W.iret (v := q2.1) hx hb hr (fun t ht hW => ⟨⟨_, (), rfl, rfl, by dsimp only; rw [ht]; exact hP⟩, hS.F ht⟩) hS.2.2 dL_digits_35
  unfold pL_digits at h
  refine lv_iconst (v := (0 : Int32)) hx hb dL_digits_0 (by decide) ?_
  refine lv_istore_n (lv' := [(2, .int (0 : Int32)), (0, .ref aV), (1, .int i2)]) hx hb dL_digits_1 rfl hl (by decide) rfl (fun ls hl => ?_)
  refine lv_iload_n hx hb dL_digits_2 rfl (lv_at hl 2 rfl) ?_
  refine lv_bipush (v := (9 : Int32)) hx hb dL_digits_3 (by decide) ?_
  refine lv_icmp_le (tgt := 21) hx hb dL_digits_5 (by decide) (fun g => ?_) (fun g => ?_)
  · rw [if_pos g] at h
    exact j21 vO0 i2 _ _ _ h hP hS (lv_sub hl [1, 2] rfl)
  · rw [if_neg g] at h
    refine lv_aload_n hx hb dL_digits_8 rfl (lv_at hl 1 rfl) ?_
    refine lv_bipush (v := (48 : Int32)) hx hb dL_digits_9 (by decide) ?_
    refine lv_iload_n hx hb dL_digits_11 rfl (lv_at hl 2 rfl) ?_
    refine lv_bipush (v := (10 : Int32)) hx hb dL_digits_12 (by decide) ?_
    obtain ⟨g, h⟩ := kif h
    refine lv_idiv hx hb dL_digits_14 g ?_
    refine lv_iadd hx hb dL_digits_15 ?_
    refine lv_i2c (v := kC ((48 : Int32) + (i2 / (10 : Int32)))) hx hb dL_digits_16 rfl ?_
    obtain ⟨q4, h3, h⟩ := Option.bind_eq_some_iff.mp h
    refine kciA (va_runV (As := [.int (kC ((48 : Int32) + (i2 / (10 : Int32))))]) (rest := []) ⟨hx, hb, hml, hown, hts⟩ (aX9_type l D cI cC cS lo aV vO0 (X) (kC ((48 : Int32) + (i2 / (10 : Int32)))) h3) (cwV 1 hts gL_digits_X9_type rfl rfl rfl (by decide +kernel) ⟨Nat.le_of_ble_eq_true rfl, Nat.le_of_ble_eq_true rfl⟩) (kpreVA hP hK hN (Nat.le_trans hz hS.1)) rfl rfl hl.1 rfl (lv_room (Nat.le_of_ble_eq_true rfl)) dL_digits_17 ⟨Nat.le_of_ble_eq_true rfl, Nat.le_of_ble_eq_true rfl⟩) hS (fun H locs hP hS => ?_)
    refine lv_istore_n (lv' := [(2, .int q4.1), (0, .ref aV), (1, .int i2)]) hx hb dL_digits_20 rfl hl (by decide) rfl (fun ls hl => ?_)
    exact j21 q4.2 i2 _ _ _ h hP hS (lv_sub hl [1, 2] rfl)
