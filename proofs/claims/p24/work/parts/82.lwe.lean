-- walks of the law's helpers (printed by wip/p24/gen/g3.py)
set_option maxHeartbeats 8000000 in
set_option maxRecDepth 100000 in
theorem kL_maps (l : Launch) (D : va_G) (cI cC cS : ClassId) (lo aV : Nat) (vO0 : Sg) (X : va_W) {q : Int32 × Sg} (h : pL_maps vO0 = some q) : kAc l yL_maps wsL_maps ({ frames := 7, cells := 0, slots := 0, locals := 161 } : Room) D (kTy cI cC cS) lo [.ref aV] (aW D cI cC cS lo aV vO0 X) (aW D cI cC cS lo aV q.2 X) q.1 0 0 := by
  refine Met.ofW (cc := cL_maps) (maxL := 7) (ret := (some .boolean)) (by decide) rfl ?_
  intro p e s m args below meth c s₁ B hml hv
  obtain ⟨rfl, hP, hK, hN, hz⟩ := hv
  have hx := B.exec
  have hb := B.bytes
  have hr := B.returns
  have hts := atoms_spec (ws := wsL_maps) B.pre
  have hown : s.vm.findClass RL = some m.cls := findClass_of_methodNamed B.named
  have hlocks := B.notSynchronized
  have hS : va_S (fun q => lo ≤ q) s.heap s.heap [] := va_S.rf
  have hl := lv_entry ([.ref aV]) (n := 7) (Nat.le_of_ble_eq_true rfl)
  rw [lg_entry_eq]
  generalize (lg_sl ([.ref aV]) ++ List.replicate (7 - (lg_sl ([.ref aV])).length) Slot.unset).toArray = ls at hl ⊢
  have hl : lv_has ls 7 [(0, .ref aV)] := hl
  have j223 : ∀ (c0_0 : Sg) (y1 : Int32) (y3 : Int32) (t0 : Int32) (t1 : Int32) (H : Heap) (locs : List Loc) (ls : Array Slot), pL_maps_j223  c0_0 y1 y3 t0 t1 = some q → (aW D cI cC cS lo aV c0_0 X) H → va_S (fun q => lo ≤ q) s.heap H locs → lv_has ls 7 [(0, .ref aV), (1, .int y1), (3, .int y3)] → W p l e ({ frames := 7, cells := 0, slots := 0, locals := 161 } : Room) s m ([.ref aV] : List Value).toArray below meth c H locs 0 0 (MQ below (va_Qi (fun (r : Int32) (_ : Unit) => r = q.1) (fun _ t => (aW D cI cC cS lo aV q.2 X) t.heap) (fun q => lo ≤ q)) ([.ref aV] : List Value).toArray s 0 0 (fun q => lo ≤ q)) (F0 m 223 ls [.int t1, .int t0]) := by
    clear h hP hS hl
    intro c0_0 y1 y3 t0 t1 H locs ls h hP hS hl
    unfold pL_maps_j223 at h
    refine lv_icmp_eq (tgt := 228) hx hb dL_maps_223 (by decide) (fun g => ?_) (fun g => ?_)
    · rw [if_pos g] at h
      refine lv_aload_n hx hb dL_maps_228 rfl (lv_at hl 0 rfl) ?_
      refine lv_bipush (v := (44 : Int32)) hx hb dL_maps_229 (by decide) ?_
      obtain ⟨q14, h13, h⟩ := Option.bind_eq_some_iff.mp h
      refine kciA (va_runV (As := [.int (44 : Int32)]) (rest := []) ⟨hx, hb, hml, hown, hts⟩ (aX9_type l D cI cC cS lo aV c0_0 (X) (44 : Int32) h13) (cwV 1 hts gL_maps_X9_type rfl rfl rfl (by decide +kernel) ⟨Nat.le_of_ble_eq_true rfl, Nat.le_of_ble_eq_true rfl⟩) (kpreVA hP hK hN (Nat.le_trans hz hS.1)) rfl rfl hl.1 rfl (lv_room (Nat.le_of_ble_eq_true rfl)) dL_maps_231 ⟨Nat.le_of_ble_eq_true rfl, Nat.le_of_ble_eq_true rfl⟩) hS (fun H locs hP hS => ?_)
      refine lv_pop hx hb dL_maps_234 rfl ?_
      refine lv_aload_n hx hb dL_maps_235 rfl (lv_at hl 0 rfl) ?_
      refine lv_bipush (v := (49 : Int32)) hx hb dL_maps_236 (by decide) ?_
      obtain ⟨q16, h15, h⟩ := Option.bind_eq_some_iff.mp h
      refine kciA (va_runV (As := [.int (49 : Int32)]) (rest := []) ⟨hx, hb, hml, hown, hts⟩ (aX9_type l D cI cC cS lo aV q14.2 (X) (49 : Int32) h15) (cwV 1 hts gL_maps_X9_type rfl rfl rfl (by decide +kernel) ⟨Nat.le_of_ble_eq_true rfl, Nat.le_of_ble_eq_true rfl⟩) (kpreVA hP hK hN (Nat.le_trans hz hS.1)) rfl rfl hl.1 rfl (lv_room (Nat.le_of_ble_eq_true rfl)) dL_maps_238 ⟨Nat.le_of_ble_eq_true rfl, Nat.le_of_ble_eq_true rfl⟩) hS (fun H locs hP hS => ?_)
      refine lv_pop hx hb dL_maps_241 rfl ?_
      refine lv_aload_n hx hb dL_maps_242 rfl (lv_at hl 0 rfl) ?_
      refine lv_bipush (v := (61 : Int32)) hx hb dL_maps_243 (by decide) ?_
      obtain ⟨q18, h17, h⟩ := Option.bind_eq_some_iff.mp h
      refine kciA (va_runV (As := [.int (61 : Int32)]) (rest := []) ⟨hx, hb, hml, hown, hts⟩ (aX9_type l D cI cC cS lo aV q16.2 (X) (61 : Int32) h17) (cwV 1 hts gL_maps_X9_type rfl rfl rfl (by decide +kernel) ⟨Nat.le_of_ble_eq_true rfl, Nat.le_of_ble_eq_true rfl⟩) (kpreVA hP hK hN (Nat.le_trans hz hS.1)) rfl rfl hl.1 rfl (lv_room (Nat.le_of_ble_eq_true rfl)) dL_maps_245 ⟨Nat.le_of_ble_eq_true rfl, Nat.le_of_ble_eq_true rfl⟩) hS (fun H locs hP hS => ?_)
      refine lv_pop hx hb dL_maps_248 rfl ?_
      refine lv_aload_n hx hb dL_maps_249 rfl (lv_at hl 0 rfl) ?_
      obtain ⟨q20, h19, h⟩ := Option.bind_eq_some_iff.mp h
      refine kciA (va_runV (As := []) (rest := []) ⟨hx, hb, hml, hown, hts⟩ (aX9_readMap l D cI cC cS lo aV q18.2 (X) h19) (cwV 0 hts gL_maps_X9_readMap rfl rfl rfl (by decide +kernel) ⟨Nat.le_of_ble_eq_true rfl, Nat.le_of_ble_eq_true rfl⟩) (kpreVA hP hK hN (Nat.le_trans hz hS.1)) rfl rfl hl.1 rfl (lv_room (Nat.le_of_ble_eq_true rfl)) dL_maps_250 ⟨Nat.le_of_ble_eq_true rfl, Nat.le_of_ble_eq_true rfl⟩) hS (fun H locs hP hS => ?_)
      refine lv_bipush (v := (-101 : Int32)) hx hb dL_maps_253 (by decide) ?_
      refine lv_iload_n hx hb dL_maps_255 rfl (lv_at hl 2 rfl) ?_
      refine lv_isub hx hb dL_maps_256 ?_
      refine lv_icmp_ne (tgt := 280) hx hb dL_maps_257 (by decide) (fun g => ?_) (fun g => ?_)
      · rw [if_neg g] at h
        refine lv_iconst (v := (0 : Int32)) hx hb dL_maps_280 (by decide) ?_
        obtain rfl := Option.some.inj h
        exact W.zret (v := (0 : Int32)) hx hb hr rfl (fun t ht hW => ⟨⟨_, (), rfl, rfl, by dsimp only; rw [ht]; exact hP⟩, hS.F ht⟩) hS.2.2 dL_maps_281
      · rw [if_pos g] at h
        refine lv_aload_n hx hb dL_maps_260 rfl (lv_at hl 0 rfl) ?_
        obtain ⟨q22, h21, h⟩ := Option.bind_eq_some_iff.mp h
        refine kciA (va_runV (As := []) (rest := []) ⟨hx, hb, hml, hown, hts⟩ (aX9_undo l D cI cC cS lo aV q20.2 (X) h21) (cwV 0 hts gL_maps_X9_undo rfl rfl rfl (by decide +kernel) ⟨Nat.le_of_ble_eq_true rfl, Nat.le_of_ble_eq_true rfl⟩) (kpreVA hP hK hN (Nat.le_trans hz hS.1)) rfl rfl hl.1 rfl (lv_room (Nat.le_of_ble_eq_true rfl)) dL_maps_261 ⟨Nat.le_of_ble_eq_true rfl, Nat.le_of_ble_eq_true rfl⟩) hS (fun H locs hP hS => ?_)
        refine lv_if_lt (tgt := 280) hx hb dL_maps_264 (by decide) (fun g => ?_) (fun g => ?_)
        · rw [if_pos g] at h
          refine lv_iconst (v := (0 : Int32)) hx hb dL_maps_280 (by decide) ?_
          obtain rfl := Option.some.inj h
          exact W.zret (v := (0 : Int32)) hx hb hr rfl (fun t ht hW => ⟨⟨_, (), rfl, rfl, by dsimp only; rw [ht]; exact hP⟩, hS.F ht⟩) hS.2.2 dL_maps_281
        · rw [if_neg g] at h
          refine lv_aload_n hx hb dL_maps_267 rfl (lv_at hl 0 rfl) ?_
          refine lv_iconst (v := (4 : Int32)) hx hb dL_maps_268 (by decide) ?_
          obtain ⟨q24, h23, h⟩ := Option.bind_eq_some_iff.mp h
          refine kciA (va_runV (As := [.int (4 : Int32)]) (rest := []) ⟨hx, hb, hml, hown, hts⟩ (aX9_count l D cI cC cS lo aV q22.2 (X) (4 : Int32) h23) (cwV 1 hts gL_maps_X9_count rfl rfl rfl (by decide +kernel) ⟨Nat.le_of_ble_eq_true rfl, Nat.le_of_ble_eq_true rfl⟩) (kpreVA hP hK hN (Nat.le_trans hz hS.1)) rfl rfl hl.1 rfl (lv_room (Nat.le_of_ble_eq_true rfl)) dL_maps_269 ⟨Nat.le_of_ble_eq_true rfl, Nat.le_of_ble_eq_true rfl⟩) hS (fun H locs hP hS => ?_)
          refine lv_iload_n hx hb dL_maps_272 rfl (lv_at hl 1 rfl) ?_
          refine lv_icmp_ne (tgt := 280) hx hb dL_maps_273 (by decide) (fun g => ?_) (fun g => ?_)
          · rw [if_neg g] at h
            refine lv_iconst (v := (0 : Int32)) hx hb dL_maps_280 (by decide) ?_
            obtain rfl := Option.some.inj h
            exact W.zret (v := (0 : Int32)) hx hb hr rfl (fun t ht hW => ⟨⟨_, (), rfl, rfl, by dsimp only; rw [ht]; exact hP⟩, hS.F ht⟩) hS.2.2 dL_maps_281
          · rw [if_pos g] at h
            refine lv_iconst (v := (1 : Int32)) hx hb dL_maps_276 (by decide) ?_
            refine lv_goto (tgt := 281) hx hb dL_maps_277 (by decide) ?_
            obtain rfl := Option.some.inj h
            exact W.zret (v := (1 : Int32)) hx hb hr rfl (fun t ht hW => ⟨⟨_, (), rfl, rfl, by dsimp only; rw [ht]; exact hP⟩, hS.F ht⟩) hS.2.2 dL_maps_281
    · rw [if_neg g] at h
      refine lv_iconst (v := (0 : Int32)) hx hb dL_maps_226 (by decide) ?_
      obtain rfl := Option.some.inj h
      exact W.zret (v := (0 : Int32)) hx hb hr rfl (fun t ht hW => ⟨⟨_, (), rfl, rfl, by dsimp only; rw [ht]; exact hP⟩, hS.F ht⟩) hS.2.2 dL_maps_227
  have L43 : ∀ (nL43 : Nat) (c0_0 : Sg) (y1 : Int32) (y2 : Int32) (y3 : Int32) (y4 : Int32) (H : Heap) (locs : List Loc) (ls : Array Slot), pL_maps_L43  nL43 c0_0 y1 y2 y3 y4 = some q → (aW D cI cC cS lo aV c0_0 X) H → va_S (fun q => lo ≤ q) s.heap H locs → lv_has ls 7 [(0, .ref aV), (1, .int y1), (2, .int y2), (3, .int y3), (4, .int y4)] → W p l e ({ frames := 7, cells := 0, slots := 0, locals := 161 } : Room) s m ([.ref aV] : List Value).toArray below meth c H locs 0 0 (MQ below (va_Qi (fun (r : Int32) (_ : Unit) => r = q.1) (fun _ t => (aW D cI cC cS lo aV q.2 X) t.heap) (fun q => lo ≤ q)) ([.ref aV] : List Value).toArray s 0 0 (fun q => lo ≤ q)) (F0 m 43 ls []) := by
    clear h hP hS hl
    intro nL43
    induction nL43 with
    | zero => intro c0_0 y1 y2 y3 y4 H locs ls h; have h : (none : Option (Int32 × Sg)) = some q := h; cases h
    | succ nL43 ihL43 =>
      have j181 : ∀ (c0_0 : Sg) (y1 : Int32) (y2 : Int32) (y3 : Int32) (y4 : Int32) (H : Heap) (locs : List Loc) (ls : Array Slot), pL_maps_j181 (pL_maps_L43  nL43) c0_0 y1 y2 y3 y4 = some q → (aW D cI cC cS lo aV c0_0 X) H → va_S (fun q => lo ≤ q) s.heap H locs → lv_has ls 7 [(0, .ref aV), (1, .int y1), (2, .int y2), (3, .int y3), (4, .int y4)] → W p l e ({ frames := 7, cells := 0, slots := 0, locals := 161 } : Room) s m ([.ref aV] : List Value).toArray below meth c H locs 0 0 (MQ below (va_Qi (fun (r : Int32) (_ : Unit) => r = q.1) (fun _ t => (aW D cI cC cS lo aV q.2 X) t.heap) (fun q => lo ≤ q)) ([.ref aV] : List Value).toArray s 0 0 (fun q => lo ≤ q)) (F0 m 181 ls []) := by
        skip
        intro c0_0 y1 y2 y3 y4 H locs ls h hP hS hl
        unfold pL_maps_j181 at h
        refine lv_iinc (v := (y4 + (1 : Int32))) (lv' := [(4, .int (y4 + (1 : Int32))), (0, .ref aV), (1, .int y1), (2, .int y2), (3, .int y3)]) hx hb dL_maps_181 hl (k := 4) rfl rfl (by decide) rfl (fun ls hl => ?_)
        refine lv_goto (tgt := 43) hx hb dL_maps_184 (by decide) ?_
        exact ihL43 c0_0 y1 y2 y3 (y4 + (1 : Int32)) _ _ _ h hP hS (lv_sub hl [1, 2, 3, 4, 0] rfl)
      have j160 : ∀ (c0_0 : Sg) (y1 : Int32) (y2 : Int32) (y3 : Int32) (y4 : Int32) (H : Heap) (locs : List Loc) (ls : Array Slot), pL_maps_j160 (pL_maps_L43  nL43) c0_0 y1 y2 y3 y4 = some q → (aW D cI cC cS lo aV c0_0 X) H → va_S (fun q => lo ≤ q) s.heap H locs → lv_has ls 7 [(0, .ref aV), (1, .int y1), (2, .int y2), (3, .int y3), (4, .int y4)] → W p l e ({ frames := 7, cells := 0, slots := 0, locals := 161 } : Room) s m ([.ref aV] : List Value).toArray below meth c H locs 0 0 (MQ below (va_Qi (fun (r : Int32) (_ : Unit) => r = q.1) (fun _ t => (aW D cI cC cS lo aV q.2 X) t.heap) (fun q => lo ≤ q)) ([.ref aV] : List Value).toArray s 0 0 (fun q => lo ≤ q)) (F0 m 160 ls []) := by
        skip
        intro c0_0 y1 y2 y3 y4 H locs ls h hP hS hl
        unfold pL_maps_j160 at h
        refine lv_iload hx hb dL_maps_160 (lv_at hl 4 rfl) ?_
        refine lv_iload_n hx hb dL_maps_162 rfl (lv_at hl 1 rfl) ?_
        refine lv_iconst (v := (1 : Int32)) hx hb dL_maps_163 (by decide) ?_
        refine lv_isub hx hb dL_maps_164 ?_
        refine lv_icmp_ge (tgt := 181) hx hb dL_maps_165 (by decide) (fun g => ?_) (fun g => ?_)
        · rw [if_pos g] at h
          exact j181 c0_0 y1 y2 y3 y4 _ _ _ h hP hS (lv_sub hl [0, 1, 2, 3, 4] rfl)
        · rw [if_neg g] at h
          refine lv_aload_n hx hb dL_maps_168 rfl (lv_at hl 0 rfl) ?_
          obtain ⟨q34, h33, h⟩ := Option.bind_eq_some_iff.mp h
          refine kciA (va_runV (As := []) (rest := []) ⟨hx, hb, hml, hown, hts⟩ (aX9_readMap l D cI cC cS lo aV c0_0 (X) h33) (cwV 0 hts gL_maps_X9_readMap rfl rfl rfl (by decide +kernel) ⟨Nat.le_of_ble_eq_true rfl, Nat.le_of_ble_eq_true rfl⟩) (kpreVA hP hK hN (Nat.le_trans hz hS.1)) rfl rfl hl.1 rfl (lv_room (Nat.le_of_ble_eq_true rfl)) dL_maps_169 ⟨Nat.le_of_ble_eq_true rfl, Nat.le_of_ble_eq_true rfl⟩) hS (fun H locs hP hS => ?_)
          refine lv_bipush (v := (-100 : Int32)) hx hb dL_maps_172 (by decide) ?_
          refine lv_iload_n hx hb dL_maps_174 rfl (lv_at hl 3 rfl) ?_
          refine lv_isub hx hb dL_maps_175 ?_
          refine lv_icmp_eq (tgt := 181) hx hb dL_maps_176 (by decide) (fun g => ?_) (fun g => ?_)
          · rw [if_pos g] at h
            exact j181 q34.2 y1 y2 y3 y4 _ _ _ h hP hS (lv_sub hl [0, 1, 2, 3, 4] rfl)
          · rw [if_neg g] at h
            refine lv_iconst (v := (0 : Int32)) hx hb dL_maps_179 (by decide) ?_
            obtain rfl := Option.some.inj h
            exact W.zret (v := (0 : Int32)) hx hb hr rfl (fun t ht hW => ⟨⟨_, (), rfl, rfl, by dsimp only; rw [ht]; exact hP⟩, hS.F ht⟩) hS.2.2 dL_maps_180
      have j156 : ∀ (c0_0 : Sg) (y1 : Int32) (y2 : Int32) (y4 : Int32) (t1 : Int32) (H : Heap) (locs : List Loc) (ls : Array Slot), pL_maps_j156 (pL_maps_L43  nL43) c0_0 y1 y2 y4 t1 = some q → (aW D cI cC cS lo aV c0_0 X) H → va_S (fun q => lo ≤ q) s.heap H locs → lv_has ls 7 [(0, .ref aV), (1, .int y1), (2, .int y2), (4, .int y4)] → W p l e ({ frames := 7, cells := 0, slots := 0, locals := 161 } : Room) s m ([.ref aV] : List Value).toArray below meth c H locs 0 0 (MQ below (va_Qi (fun (r : Int32) (_ : Unit) => r = q.1) (fun _ t => (aW D cI cC cS lo aV q.2 X) t.heap) (fun q => lo ≤ q)) ([.ref aV] : List Value).toArray s 0 0 (fun q => lo ≤ q)) (F0 m 156 ls [.int t1, .ref aV]) := by
        skip
        intro c0_0 y1 y2 y4 t1 H locs ls h hP hS hl
        unfold pL_maps_j156 at h
        obtain ⟨q32, h31, h⟩ := Option.bind_eq_some_iff.mp h
        refine kciA (va_runV (As := [.int t1]) (rest := []) ⟨hx, hb, hml, hown, hts⟩ (aX9_type l D cI cC cS lo aV c0_0 (X) t1 h31) (cwV 1 hts gL_maps_X9_type rfl rfl rfl (by decide +kernel) ⟨Nat.le_of_ble_eq_true rfl, Nat.le_of_ble_eq_true rfl⟩) (kpreVA hP hK hN (Nat.le_trans hz hS.1)) rfl rfl hl.1 rfl (lv_room (Nat.le_of_ble_eq_true rfl)) dL_maps_156 ⟨Nat.le_of_ble_eq_true rfl, Nat.le_of_ble_eq_true rfl⟩) hS (fun H locs hP hS => ?_)
        refine lv_istore_n (lv' := [(3, .int q32.1), (0, .ref aV), (1, .int y1), (2, .int y2), (4, .int y4)]) hx hb dL_maps_159 rfl hl (by decide) rfl (fun ls hl => ?_)
        exact j160 q32.2 y1 y2 q32.1 y4 _ _ _ h hP hS (lv_sub hl [1, 2, 3, 0, 4] rfl)
      have j126 : ∀ (c0_0 : Sg) (y1 : Int32) (y2 : Int32) (y4 : Int32) (y5 : Int32) (y6 : Int32) (H : Heap) (locs : List Loc) (ls : Array Slot), pL_maps_j126 (pL_maps_L43  nL43) c0_0 y1 y2 y4 y5 y6 = some q → (aW D cI cC cS lo aV c0_0 X) H → va_S (fun q => lo ≤ q) s.heap H locs → lv_has ls 7 [(0, .ref aV), (1, .int y1), (2, .int y2), (4, .int y4), (5, .int y5), (6, .int y6)] → W p l e ({ frames := 7, cells := 0, slots := 0, locals := 161 } : Room) s m ([.ref aV] : List Value).toArray below meth c H locs 0 0 (MQ below (va_Qi (fun (r : Int32) (_ : Unit) => r = q.1) (fun _ t => (aW D cI cC cS lo aV q.2 X) t.heap) (fun q => lo ≤ q)) ([.ref aV] : List Value).toArray s 0 0 (fun q => lo ≤ q)) (F0 m 126 ls []) := by
        skip
        intro c0_0 y1 y2 y4 y5 y6 H locs ls h hP hS hl
        unfold pL_maps_j126 at h
        refine lv_iload hx hb dL_maps_126 (lv_at hl 4 rfl) ?_
        refine lv_iload hx hb dL_maps_128 (lv_at hl 5 rfl) ?_
        refine lv_iadd hx hb dL_maps_130 ?_
        refine lv_iconst (v := (1 : Int32)) hx hb dL_maps_131 (by decide) ?_
        refine lv_icmp_le (tgt := 137) hx hb dL_maps_132 (by decide) (fun g => ?_) (fun g => ?_)
        · rw [if_pos g] at h
          refine lv_aload_n hx hb dL_maps_137 rfl (lv_at hl 0 rfl) ?_
          refine lv_iconst (v := (1 : Int32)) hx hb dL_maps_138 (by decide) ?_
          obtain ⟨q30, h29, h⟩ := Option.bind_eq_some_iff.mp h
          refine kciA (va_runS (As := [.ref aV, .int (1 : Int32)]) (rest := []) ⟨hx, hb, hml, hown, hts⟩ (kL_digits l D cI cC cS lo aV c0_0 (X) (1 : Int32) h29) (cwS 2 hts gL_maps_L_digits rfl rfl rfl (by decide +kernel) ⟨Nat.le_of_ble_eq_true rfl, Nat.le_of_ble_eq_true rfl⟩) (kpreA hP hK hN (Nat.le_trans hz hS.1)) rfl rfl hl.1 rfl (lv_room (Nat.le_of_ble_eq_true rfl)) dL_maps_139 ⟨Nat.le_of_ble_eq_true rfl, Nat.le_of_ble_eq_true rfl⟩) hS (fun H locs hP hS => ?_)
          refine lv_pop hx hb dL_maps_142 rfl ?_
          refine lv_aload_n hx hb dL_maps_143 rfl (lv_at hl 0 rfl) ?_
          refine lv_iload hx hb dL_maps_144 (lv_at hl 4 rfl) ?_
          refine lv_if_le (tgt := 154) hx hb dL_maps_146 (by decide) (fun g => ?_) (fun g => ?_)
          · rw [if_pos g] at h
            refine lv_bipush (v := (62 : Int32)) hx hb dL_maps_154 (by decide) ?_
            exact j156 q30.2 y1 y2 y4 (62 : Int32) _ _ _ h hP hS (lv_sub hl [0, 1, 2, 3] rfl)
          · rw [if_neg g] at h
            refine lv_bipush (v := (60 : Int32)) hx hb dL_maps_149 (by decide) ?_
            refine lv_goto (tgt := 156) hx hb dL_maps_151 (by decide) ?_
            exact j156 q30.2 y1 y2 y4 (60 : Int32) _ _ _ h hP hS (lv_sub hl [0, 1, 2, 3] rfl)
        · rw [if_neg g] at h
          refine lv_iload_n hx hb dL_maps_135 rfl (lv_at hl 2 rfl) ?_
          obtain ⟨g, h⟩ := kif h
          obtain rfl := Option.some.inj h
          exact W.zret (v := y2) hx hb hr (kB.n g) (fun t ht hW => ⟨⟨_, (), rfl, rfl, by dsimp only; rw [ht]; exact hP⟩, hS.F ht⟩) hS.2.2 dL_maps_136
      have j61 : ∀ (c0_0 : Sg) (y1 : Int32) (y2 : Int32) (y4 : Int32) (H : Heap) (locs : List Loc) (ls : Array Slot), pL_maps_j61 (pL_maps_L43  nL43) c0_0 y1 y2 y4 = some q → (aW D cI cC cS lo aV c0_0 X) H → va_S (fun q => lo ≤ q) s.heap H locs → lv_has ls 7 [(0, .ref aV), (1, .int y1), (2, .int y2), (4, .int y4)] → W p l e ({ frames := 7, cells := 0, slots := 0, locals := 161 } : Room) s m ([.ref aV] : List Value).toArray below meth c H locs 0 0 (MQ below (va_Qi (fun (r : Int32) (_ : Unit) => r = q.1) (fun _ t => (aW D cI cC cS lo aV q.2 X) t.heap) (fun q => lo ≤ q)) ([.ref aV] : List Value).toArray s 0 0 (fun q => lo ≤ q)) (F0 m 61 ls []) := by
        skip
        intro c0_0 y1 y2 y4 H locs ls h hP hS hl
        unfold pL_maps_j61 at h
        refine lv_aload_n hx hb dL_maps_61 rfl (lv_at hl 0 rfl) ?_
        refine lv_iload hx hb dL_maps_62 (lv_at hl 3 rfl) ?_
        refine lv_iconst (v := (2 : Int32)) hx hb dL_maps_64 (by decide) ?_
        obtain ⟨q26, h25, h⟩ := Option.bind_eq_some_iff.mp h
        refine kciA (va_runV (As := [.int y4, .int (2 : Int32)]) (rest := []) ⟨hx, hb, hml, hown, hts⟩ (aX9_group l D cI cC cS lo aV c0_0 (X) y4 (2 : Int32) h25) (cwV 2 hts gL_maps_X9_group rfl rfl rfl (by decide +kernel) ⟨Nat.le_of_ble_eq_true rfl, Nat.le_of_ble_eq_true rfl⟩) (kpreVA hP hK hN (Nat.le_trans hz hS.1)) rfl rfl hl.1 rfl (lv_room (Nat.le_of_ble_eq_true rfl)) dL_maps_65 ⟨Nat.le_of_ble_eq_true rfl, Nat.le_of_ble_eq_true rfl⟩) hS (fun H locs hP hS => ?_)
        refine lv_istore (lv' := [(5, .int q26), (0, .ref aV), (1, .int y1), (2, .int y2), (4, .int y4)]) hx hb dL_maps_68 hl (by decide) rfl (fun ls hl => ?_)
        refine lv_aload_n hx hb dL_maps_70 rfl (lv_at hl 1 rfl) ?_
        refine lv_iload hx hb dL_maps_71 (lv_at hl 4 rfl) ?_
        refine lv_iconst (v := (4 : Int32)) hx hb dL_maps_73 (by decide) ?_
        obtain ⟨q28, h27, h⟩ := Option.bind_eq_some_iff.mp h
        refine kciA (va_runV (As := [.int y4, .int (4 : Int32)]) (rest := []) ⟨hx, hb, hml, hown, hts⟩ (aX9_group l D cI cC cS lo aV c0_0 (X) y4 (4 : Int32) h27) (cwV 2 hts gL_maps_X9_group rfl rfl rfl (by decide +kernel) ⟨Nat.le_of_ble_eq_true rfl, Nat.le_of_ble_eq_true rfl⟩) (kpreVA hP hK hN (Nat.le_trans hz hS.1)) rfl rfl hl.1 rfl (lv_room (Nat.le_of_ble_eq_true rfl)) dL_maps_74 ⟨Nat.le_of_ble_eq_true rfl, Nat.le_of_ble_eq_true rfl⟩) hS (fun H locs hP hS => ?_)
        refine lv_istore (lv' := [(6, .int q28), (5, .int q26), (0, .ref aV), (1, .int y1), (2, .int y2), (4, .int y4)]) hx hb dL_maps_77 hl (by decide) rfl (fun ls hl => ?_)
        refine lv_iload hx hb dL_maps_79 (lv_at hl 1 rfl) ?_
        refine lv_if_le (tgt := 126) hx hb dL_maps_81 (by decide) (fun g => ?_) (fun g => ?_)
        · rw [if_pos g] at h
          exact j126 c0_0 y1 y2 y4 q26 q28 _ _ _ h hP hS (lv_sub hl [2, 3, 4, 5, 1, 0] rfl)
        · rw [if_neg g] at h
          refine lv_iload hx hb dL_maps_84 (lv_at hl 0 rfl) ?_
          refine lv_if_le (tgt := 126) hx hb dL_maps_86 (by decide) (fun g => ?_) (fun g => ?_)
          · rw [if_pos g] at h
            exact j126 c0_0 y1 y2 y4 q26 q28 _ _ _ h hP hS (lv_sub hl [2, 3, 4, 5, 1, 0] rfl)
          · rw [if_neg g] at h
            refine lv_aload_n hx hb dL_maps_89 rfl (lv_at hl 2 rfl) ?_
            refine lv_iload hx hb dL_maps_90 (lv_at hl 1 rfl) ?_
            obtain ⟨q36, h35, h⟩ := Option.bind_eq_some_iff.mp h
            refine kciA (va_runS (As := [.ref aV, .int q26]) (rest := []) ⟨hx, hb, hml, hown, hts⟩ (kL_digits l D cI cC cS lo aV c0_0 (X) q26 h35) (cwS 2 hts gL_maps_L_digits rfl rfl rfl (by decide +kernel) ⟨Nat.le_of_ble_eq_true rfl, Nat.le_of_ble_eq_true rfl⟩) (kpreA hP hK hN (Nat.le_trans hz hS.1)) rfl rfl hl.1 rfl (lv_room (Nat.le_of_ble_eq_true rfl)) dL_maps_92 ⟨Nat.le_of_ble_eq_true rfl, Nat.le_of_ble_eq_true rfl⟩) hS (fun H locs hP hS => ?_)
            refine lv_pop hx hb dL_maps_95 rfl ?_
            refine lv_aload_n hx hb dL_maps_96 rfl (lv_at hl 2 rfl) ?_
            refine lv_bipush (v := (43 : Int32)) hx hb dL_maps_97 (by decide) ?_
            obtain ⟨q38, h37, h⟩ := Option.bind_eq_some_iff.mp h
            refine kciA (va_runV (As := [.int (43 : Int32)]) (rest := []) ⟨hx, hb, hml, hown, hts⟩ (aX9_type l D cI cC cS lo aV q36.2 (X) (43 : Int32) h37) (cwV 1 hts gL_maps_X9_type rfl rfl rfl (by decide +kernel) ⟨Nat.le_of_ble_eq_true rfl, Nat.le_of_ble_eq_true rfl⟩) (kpreVA hP hK hN (Nat.le_trans hz hS.1)) rfl rfl hl.1 rfl (lv_room (Nat.le_of_ble_eq_true rfl)) dL_maps_99 ⟨Nat.le_of_ble_eq_true rfl, Nat.le_of_ble_eq_true rfl⟩) hS (fun H locs hP hS => ?_)
            refine lv_istore_n (lv' := [(3, .int q38.1), (6, .int q28), (5, .int q26), (0, .ref aV), (1, .int y1), (2, .int y2), (4, .int y4)]) hx hb dL_maps_102 rfl hl (by decide) rfl (fun ls hl => ?_)
            refine lv_aload_n hx hb dL_maps_103 rfl (lv_at hl 3 rfl) ?_
            obtain ⟨q40, h39, h⟩ := Option.bind_eq_some_iff.mp h
            refine kciA (va_runV (As := []) (rest := []) ⟨hx, hb, hml, hown, hts⟩ (aX9_readMap l D cI cC cS lo aV q38.2 (X) h39) (cwV 0 hts gL_maps_X9_readMap rfl rfl rfl (by decide +kernel) ⟨Nat.le_of_ble_eq_true rfl, Nat.le_of_ble_eq_true rfl⟩) (kpreVA hP hK hN (Nat.le_trans hz hS.1)) rfl rfl hl.1 rfl (lv_room (Nat.le_of_ble_eq_true rfl)) dL_maps_104 ⟨Nat.le_of_ble_eq_true rfl, Nat.le_of_ble_eq_true rfl⟩) hS (fun H locs hP hS => ?_)
            refine lv_bipush (v := (-100 : Int32)) hx hb dL_maps_107 (by decide) ?_
            refine lv_iload_n hx hb dL_maps_109 rfl (lv_at hl 0 rfl) ?_
            refine lv_isub hx hb dL_maps_110 ?_
            refine lv_icmp_eq (tgt := 116) hx hb dL_maps_111 (by decide) (fun g => ?_) (fun g => ?_)
            · rw [if_pos g] at h
              refine lv_aload_n hx hb dL_maps_116 rfl (lv_at hl 3 rfl) ?_
              refine lv_iload hx hb dL_maps_117 (lv_at hl 1 rfl) ?_
              obtain ⟨q42, h41, h⟩ := Option.bind_eq_some_iff.mp h
              refine kciA (va_runS (As := [.ref aV, .int q28]) (rest := []) ⟨hx, hb, hml, hown, hts⟩ (kL_digits l D cI cC cS lo aV q40.2 (X) q28 h41) (cwS 2 hts gL_maps_L_digits rfl rfl rfl (by decide +kernel) ⟨Nat.le_of_ble_eq_true rfl, Nat.le_of_ble_eq_true rfl⟩) (kpreA hP hK hN (Nat.le_trans hz hS.1)) rfl rfl hl.1 rfl (lv_room (Nat.le_of_ble_eq_true rfl)) dL_maps_119 ⟨Nat.le_of_ble_eq_true rfl, Nat.le_of_ble_eq_true rfl⟩) hS (fun H locs hP hS => ?_)
              refine lv_istore_n (lv' := [(3, .int q42.1), (6, .int q28), (5, .int q26), (0, .ref aV), (1, .int y1), (2, .int y2), (4, .int y4)]) hx hb dL_maps_122 rfl hl (by decide) rfl (fun ls hl => ?_)
              refine lv_goto (tgt := 160) hx hb dL_maps_123 (by decide) ?_
              exact j160 q42.2 y1 y2 q42.1 y4 _ _ _ h hP hS (lv_sub hl [3, 4, 5, 0, 6] rfl)
            · rw [if_neg g] at h
              refine lv_iconst (v := (0 : Int32)) hx hb dL_maps_114 (by decide) ?_
              obtain rfl := Option.some.inj h
              exact W.zret (v := (0 : Int32)) hx hb hr rfl (fun t ht hW => ⟨⟨_, (), rfl, rfl, by dsimp only; rw [ht]; exact hP⟩, hS.F ht⟩) hS.2.2 dL_maps_115
      intro c0_0 y1 y2 y3 y4 H locs ls h hP hS hl
      have h : pL_maps_bL43 (pL_maps_L43  nL43) c0_0 y1 y2 y3 y4 = some q := h
      unfold pL_maps_bL43 at h
      refine lv_iload hx hb dL_maps_43 (lv_at hl 4 rfl) ?_
      refine lv_iload_n hx hb dL_maps_45 rfl (lv_at hl 1 rfl) ?_
      refine lv_icmp_ge (tgt := 187) hx hb dL_maps_46 (by decide) (fun g => ?_) (fun g => ?_)
      · rw [if_pos g] at h
        refine lv_aload_n hx hb dL_maps_187 rfl (lv_at hl 0 rfl) ?_
        refine lv_bipush (v := (11 : Int32)) hx hb dL_maps_188 (by decide) ?_
        obtain ⟨q8, h7, h⟩ := Option.bind_eq_some_iff.mp h
        refine kciA (va_runV (As := [.int (11 : Int32)]) (rest := []) ⟨hx, hb, hml, hown, hts⟩ (aX9_count l D cI cC cS lo aV c0_0 (X) (11 : Int32) h7) (cwV 1 hts gL_maps_X9_count rfl rfl rfl (by decide +kernel) ⟨Nat.le_of_ble_eq_true rfl, Nat.le_of_ble_eq_true rfl⟩) (kpreVA hP hK hN (Nat.le_trans hz hS.1)) rfl rfl hl.1 rfl (lv_room (Nat.le_of_ble_eq_true rfl)) dL_maps_190 ⟨Nat.le_of_ble_eq_true rfl, Nat.le_of_ble_eq_true rfl⟩) hS (fun H locs hP hS => ?_)
        refine lv_istore (lv' := [(4, .int q8), (0, .ref aV), (1, .int y1), (2, .int y2), (3, .int y3)]) hx hb dL_maps_193 hl (by decide) rfl (fun ls hl => ?_)
        refine lv_aload_n hx hb dL_maps_195 rfl (lv_at hl 1 rfl) ?_
        obtain ⟨q10, h9, h⟩ := Option.bind_eq_some_iff.mp h
        refine kciA (va_runV (As := []) (rest := []) ⟨hx, hb, hml, hown, hts⟩ (aX9_readMap l D cI cC cS lo aV c0_0 (X) h9) (cwV 0 hts gL_maps_X9_readMap rfl rfl rfl (by decide +kernel) ⟨Nat.le_of_ble_eq_true rfl, Nat.le_of_ble_eq_true rfl⟩) (kpreVA hP hK hN (Nat.le_trans hz hS.1)) rfl rfl hl.1 rfl (lv_room (Nat.le_of_ble_eq_true rfl)) dL_maps_196 ⟨Nat.le_of_ble_eq_true rfl, Nat.le_of_ble_eq_true rfl⟩) hS (fun H locs hP hS => ?_)
        refine lv_iload_n hx hb dL_maps_199 rfl (lv_at hl 2 rfl) ?_
        refine lv_icmp_ne (tgt := 226) hx hb dL_maps_200 (by decide) (fun g => ?_) (fun g => ?_)
        · rw [if_neg g] at h
          refine lv_iconst (v := (0 : Int32)) hx hb dL_maps_226 (by decide) ?_
          obtain rfl := Option.some.inj h
          exact W.zret (v := (0 : Int32)) hx hb hr rfl (fun t ht hW => ⟨⟨_, (), rfl, rfl, by dsimp only; rw [ht]; exact hP⟩, hS.F ht⟩) hS.2.2 dL_maps_227
        · rw [if_pos g] at h
          refine lv_aload_n hx hb dL_maps_203 rfl (lv_at hl 1 rfl) ?_
          refine lv_bipush (v := (11 : Int32)) hx hb dL_maps_204 (by decide) ?_
          obtain ⟨q12, h11, h⟩ := Option.bind_eq_some_iff.mp h
          refine kciA (va_runV (As := [.int (11 : Int32)]) (rest := []) ⟨hx, hb, hml, hown, hts⟩ (aX9_count l D cI cC cS lo aV q10.2 (X) (11 : Int32) h11) (cwV 1 hts gL_maps_X9_count rfl rfl rfl (by decide +kernel) ⟨Nat.le_of_ble_eq_true rfl, Nat.le_of_ble_eq_true rfl⟩) (kpreVA hP hK hN (Nat.le_trans hz hS.1)) rfl rfl hl.1 rfl (lv_room (Nat.le_of_ble_eq_true rfl)) dL_maps_206 ⟨Nat.le_of_ble_eq_true rfl, Nat.le_of_ble_eq_true rfl⟩) hS (fun H locs hP hS => ?_)
          refine lv_iload hx hb dL_maps_209 (lv_at hl 0 rfl) ?_
          refine lv_iconst (v := (5 : Int32)) hx hb dL_maps_211 (by decide) ?_
          refine lv_icmp_ge (tgt := 222) hx hb dL_maps_212 (by decide) (fun g => ?_) (fun g => ?_)
          · rw [if_pos g] at h
            refine lv_iconst (v := (5 : Int32)) hx hb dL_maps_222 (by decide) ?_
            exact j223 q10.2 y1 y3 q12 (5 : Int32) _ _ _ h hP hS (lv_sub hl [1, 2, 4] rfl)
          · rw [if_neg g] at h
            refine lv_iload hx hb dL_maps_215 (lv_at hl 0 rfl) ?_
            refine lv_iconst (v := (1 : Int32)) hx hb dL_maps_217 (by decide) ?_
            refine lv_iadd hx hb dL_maps_218 ?_
            refine lv_goto (tgt := 223) hx hb dL_maps_219 (by decide) ?_
            exact j223 q10.2 y1 y3 q12 (q8 + (1 : Int32)) _ _ _ h hP hS (lv_sub hl [1, 2, 4] rfl)
      · rw [if_neg g] at h
        refine lv_iload hx hb dL_maps_49 (lv_at hl 4 rfl) ?_
        refine lv_if_le (tgt := 61) hx hb dL_maps_51 (by decide) (fun g => ?_) (fun g => ?_)
        · rw [if_pos g] at h
          exact j61 c0_0 y1 y2 y4 _ _ _ h hP hS (lv_sub hl [0, 1, 2, 4] rfl)
        · rw [if_neg g] at h
          refine lv_aload_n hx hb dL_maps_54 rfl (lv_at hl 0 rfl) ?_
          refine lv_bipush (v := (44 : Int32)) hx hb dL_maps_55 (by decide) ?_
          obtain ⟨q44, h43, h⟩ := Option.bind_eq_some_iff.mp h
          refine kciA (va_runV (As := [.int (44 : Int32)]) (rest := []) ⟨hx, hb, hml, hown, hts⟩ (aX9_type l D cI cC cS lo aV c0_0 (X) (44 : Int32) h43) (cwV 1 hts gL_maps_X9_type rfl rfl rfl (by decide +kernel) ⟨Nat.le_of_ble_eq_true rfl, Nat.le_of_ble_eq_true rfl⟩) (kpreVA hP hK hN (Nat.le_trans hz hS.1)) rfl rfl hl.1 rfl (lv_room (Nat.le_of_ble_eq_true rfl)) dL_maps_57 ⟨Nat.le_of_ble_eq_true rfl, Nat.le_of_ble_eq_true rfl⟩) hS (fun H locs hP hS => ?_)
          refine lv_pop hx hb dL_maps_60 rfl ?_
          exact j61 q44.2 y1 y2 y4 _ _ _ h hP hS (lv_sub hl [0, 1, 2, 4] rfl)
  have j25 : ∀ (c0_0 : Sg) (y1 : Int32) (t0 : Int32) (H : Heap) (locs : List Loc) (ls : Array Slot), pL_maps_j25  c0_0 y1 t0 = some q → (aW D cI cC cS lo aV c0_0 X) H → va_S (fun q => lo ≤ q) s.heap H locs → lv_has ls 7 [(0, .ref aV), (1, .int y1)] → W p l e ({ frames := 7, cells := 0, slots := 0, locals := 161 } : Room) s m ([.ref aV] : List Value).toArray below meth c H locs 0 0 (MQ below (va_Qi (fun (r : Int32) (_ : Unit) => r = q.1) (fun _ t => (aW D cI cC cS lo aV q.2 X) t.heap) (fun q => lo ≤ q)) ([.ref aV] : List Value).toArray s 0 0 (fun q => lo ≤ q)) (F0 m 25 ls [.int t0]) := by
    clear h hP hS hl
    intro c0_0 y1 t0 H locs ls h hP hS hl
    unfold pL_maps_j25 at h
    refine lv_istore_n (lv' := [(2, .int t0), (0, .ref aV), (1, .int y1)]) hx hb dL_maps_25 rfl hl (by decide) rfl (fun ls hl => ?_)
    refine lv_iload_n hx hb dL_maps_26 rfl (lv_at hl 2 rfl) ?_
    refine lv_if_eq (tgt := 36) hx hb dL_maps_27 (by decide) (fun g => ?_) (fun g => ?_)
    · rw [if_pos g] at h
      refine lv_iload_n hx hb dL_maps_36 rfl (lv_at hl 0 rfl) ?_
      obtain ⟨g, h⟩ := kif h
      obtain rfl := Option.some.inj h
      exact W.zret (v := t0) hx hb hr (kB.n g) (fun t ht hW => ⟨⟨_, (), rfl, rfl, by dsimp only; rw [ht]; exact hP⟩, hS.F ht⟩) hS.2.2 dL_maps_37
    · rw [if_neg g] at h
      refine lv_iload_n hx hb dL_maps_30 rfl (lv_at hl 2 rfl) ?_
      refine lv_bipush (v := (12 : Int32)) hx hb dL_maps_31 (by decide) ?_
      refine lv_icmp_le (tgt := 38) hx hb dL_maps_33 (by decide) (fun g => ?_) (fun g => ?_)
      · rw [if_pos g] at h
        refine lv_iconst (v := (0 : Int32)) hx hb dL_maps_38 (by decide) ?_
        refine lv_istore_n (lv' := [(3, .int (0 : Int32)), (2, .int t0), (0, .ref aV), (1, .int y1)]) hx hb dL_maps_39 rfl hl (by decide) rfl (fun ls hl => ?_)
        refine lv_iconst (v := (0 : Int32)) hx hb dL_maps_40 (by decide) ?_
        refine lv_istore (lv' := [(4, .int (0 : Int32)), (3, .int (0 : Int32)), (2, .int t0), (0, .ref aV), (1, .int y1)]) hx hb dL_maps_41 hl (by decide) rfl (fun ls hl => ?_)
        exact L43 4000 c0_0 y1 t0 (0 : Int32) (0 : Int32) _ _ _ h hP hS (lv_sub hl [3, 4, 2, 1, 0] rfl)
      · rw [if_neg g] at h
        refine lv_iload_n hx hb dL_maps_36 rfl (lv_at hl 0 rfl) ?_
        obtain ⟨g, h⟩ := kif h
        obtain rfl := Option.some.inj h
        exact W.zret (v := t0) hx hb hr (kB.n g) (fun t ht hW => ⟨⟨_, (), rfl, rfl, by dsimp only; rw [ht]; exact hP⟩, hS.F ht⟩) hS.2.2 dL_maps_37
  unfold pL_maps at h
  refine lv_aload_n hx hb dL_maps_0 rfl (lv_at hl 0 rfl) ?_
  refine lv_iconst (v := (4 : Int32)) hx hb dL_maps_1 (by decide) ?_
  obtain ⟨q2, h1, h⟩ := Option.bind_eq_some_iff.mp h
  refine kciA (va_runV (As := [.int (4 : Int32)]) (rest := []) ⟨hx, hb, hml, hown, hts⟩ (aX9_count l D cI cC cS lo aV vO0 (X) (4 : Int32) h1) (cwV 1 hts gL_maps_X9_count rfl rfl rfl (by decide +kernel) ⟨Nat.le_of_ble_eq_true rfl, Nat.le_of_ble_eq_true rfl⟩) (kpreVA hP hK hN (Nat.le_trans hz hS.1)) rfl rfl hl.1 rfl (lv_room (Nat.le_of_ble_eq_true rfl)) dL_maps_2 ⟨Nat.le_of_ble_eq_true rfl, Nat.le_of_ble_eq_true rfl⟩) hS (fun H locs hP hS => ?_)
  refine lv_istore_n (lv' := [(1, .int q2), (0, .ref aV)]) hx hb dL_maps_5 rfl hl (by decide) rfl (fun ls hl => ?_)
  refine lv_aload_n hx hb dL_maps_6 rfl (lv_at hl 1 rfl) ?_
  obtain ⟨q4, h3, h⟩ := Option.bind_eq_some_iff.mp h
  refine kciA (va_runV (As := []) (rest := []) ⟨hx, hb, hml, hown, hts⟩ (aX9_clearText l D cI cC cS lo aV vO0 (X) h3) (cwV 0 hts gL_maps_X9_clearText rfl rfl rfl (by decide +kernel) ⟨Nat.le_of_ble_eq_true rfl, Nat.le_of_ble_eq_true rfl⟩) (kpreVA hP hK hN (Nat.le_trans hz hS.1)) rfl rfl hl.1 rfl (lv_room (Nat.le_of_ble_eq_true rfl)) dL_maps_7 ⟨Nat.le_of_ble_eq_true rfl, Nat.le_of_ble_eq_true rfl⟩) hS (fun H locs hP hS => ?_)
  refine lv_pop hx hb dL_maps_10 rfl ?_
  refine lv_aload_n hx hb dL_maps_11 rfl (lv_at hl 1 rfl) ?_
  obtain ⟨q6, h5, h⟩ := Option.bind_eq_some_iff.mp h
  refine kciA (va_runV (As := []) (rest := []) ⟨hx, hb, hml, hown, hts⟩ (aX9_readMap l D cI cC cS lo aV q4.2 (X) h5) (cwV 0 hts gL_maps_X9_readMap rfl rfl rfl (by decide +kernel) ⟨Nat.le_of_ble_eq_true rfl, Nat.le_of_ble_eq_true rfl⟩) (kpreVA hP hK hN (Nat.le_trans hz hS.1)) rfl rfl hl.1 rfl (lv_room (Nat.le_of_ble_eq_true rfl)) dL_maps_12 ⟨Nat.le_of_ble_eq_true rfl, Nat.le_of_ble_eq_true rfl⟩) hS (fun H locs hP hS => ?_)
  refine lv_bipush (v := (-100 : Int32)) hx hb dL_maps_15 (by decide) ?_
  refine lv_icmp_ne (tgt := 24) hx hb dL_maps_17 (by decide) (fun g => ?_) (fun g => ?_)
  · rw [if_neg g] at h
    refine lv_iconst (v := (0 : Int32)) hx hb dL_maps_24 (by decide) ?_
    exact j25 q6.2 q2 (0 : Int32) _ _ _ h hP hS (lv_sub hl [1, 0] rfl)
  · rw [if_pos g] at h
    refine lv_iconst (v := (1 : Int32)) hx hb dL_maps_20 (by decide) ?_
    refine lv_goto (tgt := 25) hx hb dL_maps_21 (by decide) ?_
    exact j25 q6.2 q2 (1 : Int32) _ _ _ h hP hS (lv_sub hl [1, 0] rfl)
set_option maxHeartbeats 8000000 in
set_option maxRecDepth 100000 in
theorem kL_joins (l : Launch) (D : va_G) (cI cC cS : ClassId) (lo aV : Nat) (vO0 : Sg) (X : va_W) (i2 : Int32) (i3 : Int32) {q : Int32 × Sg} (h : pL_joins vO0 i2 i3 = some q) : kAc l yL_joins wsL_joins ({ frames := 7, cells := 0, slots := 0, locals := 164 } : Room) D (kTy cI cC cS) lo [.ref aV, .int i2, .int i3] (aW D cI cC cS lo aV vO0 X) (aW D cI cC cS lo aV q.2 X) q.1 0 0 := by
  refine Met.ofW (cc := cL_joins) (maxL := 10) (ret := (some .boolean)) (by decide) rfl ?_
  intro p e s m args below meth c s₁ B hml hv
  obtain ⟨rfl, hP, hK, hN, hz⟩ := hv
  have hx := B.exec
  have hb := B.bytes
  have hr := B.returns
  have hts := atoms_spec (ws := wsL_joins) B.pre
  have hown : s.vm.findClass RL = some m.cls := findClass_of_methodNamed B.named
  have hlocks := B.notSynchronized
  have hS : va_S (fun q => lo ≤ q) s.heap s.heap [] := va_S.rf
  have hl := lv_entry ([.ref aV, .int i2, .int i3]) (n := 10) (Nat.le_of_ble_eq_true rfl)
  rw [lg_entry_eq]
  generalize (lg_sl ([.ref aV, .int i2, .int i3]) ++ List.replicate (10 - (lg_sl ([.ref aV, .int i2, .int i3])).length) Slot.unset).toArray = ls at hl ⊢
  have hl : lv_has ls 10 [(0, .ref aV), (1, .int i2), (2, .int i3)] := hl
  have j202 : ∀ (c0_0 : Sg) (y1 : Int32) (y2 : Int32) (y9 : Int32) (t0 : Int32) (t1 : Int32) (H : Heap) (locs : List Loc) (ls : Array Slot), pL_joins_j202  c0_0 y1 y2 y9 t0 t1 = some q → (aW D cI cC cS lo aV c0_0 X) H → va_S (fun q => lo ≤ q) s.heap H locs → lv_has ls 10 [(0, .ref aV), (1, .int y1), (2, .int y2), (9, .int y9)] → W p l e ({ frames := 7, cells := 0, slots := 0, locals := 164 } : Room) s m ([.ref aV, .int i2, .int i3] : List Value).toArray below meth c H locs 0 0 (MQ below (va_Qi (fun (r : Int32) (_ : Unit) => r = q.1) (fun _ t => (aW D cI cC cS lo aV q.2 X) t.heap) (fun q => lo ≤ q)) ([.ref aV, .int i2, .int i3] : List Value).toArray s 0 0 (fun q => lo ≤ q)) (F0 m 202 ls [.int t1, .int t0]) := by
    clear h hP hS hl
    intro c0_0 y1 y2 y9 t0 t1 H locs ls h hP hS hl
    unfold pL_joins_j202 at h
    refine lv_icmp_ne (tgt := 233) hx hb dL_joins_202 (by decide) (fun g => ?_) (fun g => ?_)
    · rw [if_neg g] at h
      refine lv_iconst (v := (0 : Int32)) hx hb dL_joins_233 (by decide) ?_
      obtain rfl := Option.some.inj h
      exact W.zret (v := (0 : Int32)) hx hb hr rfl (fun t ht hW => ⟨⟨_, (), rfl, rfl, by dsimp only; rw [ht]; exact hP⟩, hS.F ht⟩) hS.2.2 dL_joins_234
    · rw [if_pos g] at h
      refine lv_aload_n hx hb dL_joins_205 rfl (lv_at hl 0 rfl) ?_
      refine lv_iload_n hx hb dL_joins_206 rfl (lv_at hl 1 rfl) ?_
      refine lv_iload_n hx hb dL_joins_207 rfl (lv_at hl 2 rfl) ?_
      refine lv_iconst (v := (3 : Int32)) hx hb dL_joins_208 (by decide) ?_
      obtain ⟨q26, h25, h⟩ := Option.bind_eq_some_iff.mp h
      refine kciA (va_runV (As := [.int y1, .int y2, .int (3 : Int32)]) (rest := []) ⟨hx, hb, hml, hown, hts⟩ (aX9_verse l D cI cC cS lo aV c0_0 (X) y1 y2 (3 : Int32) h25) (cwV 3 hts gL_joins_X9_verse rfl rfl rfl (by decide +kernel) ⟨Nat.le_of_ble_eq_true rfl, Nat.le_of_ble_eq_true rfl⟩) (kpreVA hP hK hN (Nat.le_trans hz hS.1)) rfl rfl hl.1 rfl (lv_room (Nat.le_of_ble_eq_true rfl)) dL_joins_209 ⟨Nat.le_of_ble_eq_true rfl, Nat.le_of_ble_eq_true rfl⟩) hS (fun H locs hP hS => ?_)
      refine lv_iload hx hb dL_joins_212 (lv_at hl 3 rfl) ?_
      refine lv_bipush (v := (10 : Int32)) hx hb dL_joins_214 (by decide) ?_
      refine lv_icmp_le (tgt := 224) hx hb dL_joins_216 (by decide) (fun g => ?_) (fun g => ?_)
      · rw [if_pos g] at h
        refine lv_iload hx hb dL_joins_224 (lv_at hl 3 rfl) ?_
        refine lv_icmp_ne (tgt := 233) hx hb dL_joins_226 (by decide) (fun g => ?_) (fun g => ?_)
        · rw [if_neg g] at h
          refine lv_iconst (v := (0 : Int32)) hx hb dL_joins_233 (by decide) ?_
          obtain rfl := Option.some.inj h
          exact W.zret (v := (0 : Int32)) hx hb hr rfl (fun t ht hW => ⟨⟨_, (), rfl, rfl, by dsimp only; rw [ht]; exact hP⟩, hS.F ht⟩) hS.2.2 dL_joins_234
        · rw [if_pos g] at h
          refine lv_iconst (v := (1 : Int32)) hx hb dL_joins_229 (by decide) ?_
          refine lv_goto (tgt := 234) hx hb dL_joins_230 (by decide) ?_
          obtain rfl := Option.some.inj h
          exact W.zret (v := (1 : Int32)) hx hb hr rfl (fun t ht hW => ⟨⟨_, (), rfl, rfl, by dsimp only; rw [ht]; exact hP⟩, hS.F ht⟩) hS.2.2 dL_joins_234
      · rw [if_neg g] at h
        refine lv_bipush (v := (10 : Int32)) hx hb dL_joins_219 (by decide) ?_
        refine lv_goto (tgt := 226) hx hb dL_joins_221 (by decide) ?_
        refine lv_icmp_ne (tgt := 233) hx hb dL_joins_226 (by decide) (fun g => ?_) (fun g => ?_)
        · rw [if_neg g] at h
          refine lv_iconst (v := (0 : Int32)) hx hb dL_joins_233 (by decide) ?_
          obtain rfl := Option.some.inj h
          exact W.zret (v := (0 : Int32)) hx hb hr rfl (fun t ht hW => ⟨⟨_, (), rfl, rfl, by dsimp only; rw [ht]; exact hP⟩, hS.F ht⟩) hS.2.2 dL_joins_234
        · rw [if_pos g] at h
          refine lv_iconst (v := (1 : Int32)) hx hb dL_joins_229 (by decide) ?_
          refine lv_goto (tgt := 234) hx hb dL_joins_230 (by decide) ?_
          obtain rfl := Option.some.inj h
          exact W.zret (v := (1 : Int32)) hx hb hr rfl (fun t ht hW => ⟨⟨_, (), rfl, rfl, by dsimp only; rw [ht]; exact hP⟩, hS.F ht⟩) hS.2.2 dL_joins_234
  have j55 : ∀ (c0_0 : Sg) (y1 : Int32) (y2 : Int32) (y3 : Int32) (y4 : Int32) (y5 : Int32) (t0 : Int32) (H : Heap) (locs : List Loc) (ls : Array Slot), pL_joins_j55  c0_0 y1 y2 y3 y4 y5 t0 = some q → (aW D cI cC cS lo aV c0_0 X) H → va_S (fun q => lo ≤ q) s.heap H locs → lv_has ls 10 [(0, .ref aV), (1, .int y1), (2, .int y2), (3, .int y3), (4, .int y4), (5, .int y5)] → W p l e ({ frames := 7, cells := 0, slots := 0, locals := 164 } : Room) s m ([.ref aV, .int i2, .int i3] : List Value).toArray below meth c H locs 0 0 (MQ below (va_Qi (fun (r : Int32) (_ : Unit) => r = q.1) (fun _ t => (aW D cI cC cS lo aV q.2 X) t.heap) (fun q => lo ≤ q)) ([.ref aV, .int i2, .int i3] : List Value).toArray s 0 0 (fun q => lo ≤ q)) (F0 m 55 ls [.int t0]) := by
    clear h hP hS hl
    intro c0_0 y1 y2 y3 y4 y5 t0 H locs ls h hP hS hl
    unfold pL_joins_j55 at h
    refine lv_istore (lv' := [(6, .int t0), (0, .ref aV), (1, .int y1), (2, .int y2), (3, .int y3), (4, .int y4), (5, .int y5)]) hx hb dL_joins_55 hl (by decide) rfl (fun ls hl => ?_)
    refine lv_iload hx hb dL_joins_57 (lv_at hl 0 rfl) ?_
    refine lv_if_eq (tgt := 90) hx hb dL_joins_59 (by decide) (fun g => ?_) (fun g => ?_)
    · rw [if_pos g] at h
      refine lv_aload_n hx hb dL_joins_90 rfl (lv_at hl 1 rfl) ?_
      refine lv_iload_n hx hb dL_joins_91 rfl (lv_at hl 2 rfl) ?_
      refine lv_iload_n hx hb dL_joins_92 rfl (lv_at hl 3 rfl) ?_
      refine lv_iconst (v := (1 : Int32)) hx hb dL_joins_93 (by decide) ?_
      refine lv_iadd hx hb dL_joins_94 ?_
      refine lv_iconst (v := (0 : Int32)) hx hb dL_joins_95 (by decide) ?_
      obtain ⟨q8, h7, h⟩ := Option.bind_eq_some_iff.mp h
      refine kciA (va_runV (As := [.int y1, .int (y2 + (1 : Int32)), .int (0 : Int32)]) (rest := []) ⟨hx, hb, hml, hown, hts⟩ (aX9_beside l D cI cC cS lo aV c0_0 (X) y1 (y2 + (1 : Int32)) (0 : Int32) h7) (cwV 3 hts gL_joins_X9_beside rfl rfl rfl (by decide +kernel) ⟨Nat.le_of_ble_eq_true rfl, Nat.le_of_ble_eq_true rfl⟩) (kpreVA hP hK hN (Nat.le_trans hz hS.1)) rfl rfl hl.1 rfl (lv_room (Nat.le_of_ble_eq_true rfl)) dL_joins_96 ⟨Nat.le_of_ble_eq_true rfl, Nat.le_of_ble_eq_true rfl⟩) hS (fun H locs hP hS => ?_)
      refine lv_istore (lv' := [(7, .int q8), (6, .int t0), (0, .ref aV), (1, .int y1), (2, .int y2), (3, .int y3), (4, .int y4), (5, .int y5)]) hx hb dL_joins_99 hl (by decide) rfl (fun ls hl => ?_)
      refine lv_aload_n hx hb dL_joins_101 rfl (lv_at hl 2 rfl) ?_
      refine lv_iload_n hx hb dL_joins_102 rfl (lv_at hl 3 rfl) ?_
      refine lv_iload_n hx hb dL_joins_103 rfl (lv_at hl 4 rfl) ?_
      refine lv_iconst (v := (2 : Int32)) hx hb dL_joins_104 (by decide) ?_
      obtain ⟨q10, h9, h⟩ := Option.bind_eq_some_iff.mp h
      refine kciA (va_runV (As := [.int y1, .int y2, .int (2 : Int32)]) (rest := []) ⟨hx, hb, hml, hown, hts⟩ (aX9_verse l D cI cC cS lo aV c0_0 (X) y1 y2 (2 : Int32) h9) (cwV 3 hts gL_joins_X9_verse rfl rfl rfl (by decide +kernel) ⟨Nat.le_of_ble_eq_true rfl, Nat.le_of_ble_eq_true rfl⟩) (kpreVA hP hK hN (Nat.le_trans hz hS.1)) rfl rfl hl.1 rfl (lv_room (Nat.le_of_ble_eq_true rfl)) dL_joins_105 ⟨Nat.le_of_ble_eq_true rfl, Nat.le_of_ble_eq_true rfl⟩) hS (fun H locs hP hS => ?_)
      refine lv_aload_n hx hb dL_joins_108 rfl (lv_at hl 2 rfl) ?_
      refine lv_iload_n hx hb dL_joins_109 rfl (lv_at hl 3 rfl) ?_
      refine lv_iload_n hx hb dL_joins_110 rfl (lv_at hl 4 rfl) ?_
      refine lv_iconst (v := (1 : Int32)) hx hb dL_joins_111 (by decide) ?_
      refine lv_iadd hx hb dL_joins_112 ?_
      refine lv_iconst (v := (2 : Int32)) hx hb dL_joins_113 (by decide) ?_
      obtain ⟨q12, h11, h⟩ := Option.bind_eq_some_iff.mp h
      refine kciA (va_runV (As := [.int y1, .int (y2 + (1 : Int32)), .int (2 : Int32)]) (rest := [.int q10]) ⟨hx, hb, hml, hown, hts⟩ (aX9_verse l D cI cC cS lo aV c0_0 (X) y1 (y2 + (1 : Int32)) (2 : Int32) h11) (cwV 3 hts gL_joins_X9_verse rfl rfl rfl (by decide +kernel) ⟨Nat.le_of_ble_eq_true rfl, Nat.le_of_ble_eq_true rfl⟩) (kpreVA hP hK hN (Nat.le_trans hz hS.1)) rfl rfl hl.1 rfl (lv_room (Nat.le_of_ble_eq_true rfl)) dL_joins_114 ⟨Nat.le_of_ble_eq_true rfl, Nat.le_of_ble_eq_true rfl⟩) hS (fun H locs hP hS => ?_)
      refine lv_iadd hx hb dL_joins_117 ?_
      refine lv_istore (lv' := [(8, .int (q10 + q12)), (7, .int q8), (6, .int t0), (0, .ref aV), (1, .int y1), (2, .int y2), (3, .int y3), (4, .int y4), (5, .int y5)]) hx hb dL_joins_118 hl (by decide) rfl (fun ls hl => ?_)
      refine lv_aload_n hx hb dL_joins_120 rfl (lv_at hl 3 rfl) ?_
      refine lv_iload_n hx hb dL_joins_121 rfl (lv_at hl 4 rfl) ?_
      refine lv_iload_n hx hb dL_joins_122 rfl (lv_at hl 5 rfl) ?_
      refine lv_iconst (v := (3 : Int32)) hx hb dL_joins_123 (by decide) ?_
      obtain ⟨q14, h13, h⟩ := Option.bind_eq_some_iff.mp h
      refine kciA (va_runV (As := [.int y1, .int y2, .int (3 : Int32)]) (rest := []) ⟨hx, hb, hml, hown, hts⟩ (aX9_verse l D cI cC cS lo aV c0_0 (X) y1 y2 (3 : Int32) h13) (cwV 3 hts gL_joins_X9_verse rfl rfl rfl (by decide +kernel) ⟨Nat.le_of_ble_eq_true rfl, Nat.le_of_ble_eq_true rfl⟩) (kpreVA hP hK hN (Nat.le_trans hz hS.1)) rfl rfl hl.1 rfl (lv_room (Nat.le_of_ble_eq_true rfl)) dL_joins_124 ⟨Nat.le_of_ble_eq_true rfl, Nat.le_of_ble_eq_true rfl⟩) hS (fun H locs hP hS => ?_)
      refine lv_aload_n hx hb dL_joins_127 rfl (lv_at hl 3 rfl) ?_
      refine lv_iload_n hx hb dL_joins_128 rfl (lv_at hl 4 rfl) ?_
      refine lv_iload_n hx hb dL_joins_129 rfl (lv_at hl 5 rfl) ?_
      refine lv_iconst (v := (1 : Int32)) hx hb dL_joins_130 (by decide) ?_
      refine lv_iadd hx hb dL_joins_131 ?_
      refine lv_iconst (v := (3 : Int32)) hx hb dL_joins_132 (by decide) ?_
      obtain ⟨q16, h15, h⟩ := Option.bind_eq_some_iff.mp h
      refine kciA (va_runV (As := [.int y1, .int (y2 + (1 : Int32)), .int (3 : Int32)]) (rest := [.int q14]) ⟨hx, hb, hml, hown, hts⟩ (aX9_verse l D cI cC cS lo aV c0_0 (X) y1 (y2 + (1 : Int32)) (3 : Int32) h15) (cwV 3 hts gL_joins_X9_verse rfl rfl rfl (by decide +kernel) ⟨Nat.le_of_ble_eq_true rfl, Nat.le_of_ble_eq_true rfl⟩) (kpreVA hP hK hN (Nat.le_trans hz hS.1)) rfl rfl hl.1 rfl (lv_room (Nat.le_of_ble_eq_true rfl)) dL_joins_133 ⟨Nat.le_of_ble_eq_true rfl, Nat.le_of_ble_eq_true rfl⟩) hS (fun H locs hP hS => ?_)
      refine lv_iadd hx hb dL_joins_136 ?_
      refine lv_istore (lv' := [(9, .int (q14 + q16)), (8, .int (q10 + q12)), (7, .int q8), (6, .int t0), (0, .ref aV), (1, .int y1), (2, .int y2), (3, .int y3), (4, .int y4), (5, .int y5)]) hx hb dL_joins_137 hl (by decide) rfl (fun ls hl => ?_)
      refine lv_aload_n hx hb dL_joins_139 rfl (lv_at hl 4 rfl) ?_
      refine lv_iload_n hx hb dL_joins_140 rfl (lv_at hl 5 rfl) ?_
      refine lv_iload_n hx hb dL_joins_141 rfl (lv_at hl 6 rfl) ?_
      obtain ⟨q18, h17, h⟩ := Option.bind_eq_some_iff.mp h
      refine kciA (va_runV (As := [.int y1, .int y2]) (rest := []) ⟨hx, hb, hml, hown, hts⟩ (aX9_joinVerses l D cI cC cS lo aV c0_0 (X) y1 y2 h17) (cwV 2 hts gL_joins_X9_joinVerses rfl rfl rfl (by decide +kernel) ⟨Nat.le_of_ble_eq_true rfl, Nat.le_of_ble_eq_true rfl⟩) (kpreVA hP hK hN (Nat.le_trans hz hS.1)) rfl rfl hl.1 rfl (lv_room (Nat.le_of_ble_eq_true rfl)) dL_joins_142 ⟨Nat.le_of_ble_eq_true rfl, Nat.le_of_ble_eq_true rfl⟩) hS (fun H locs hP hS => ?_)
      refine lv_iload_n hx hb dL_joins_145 rfl (lv_at hl 7 rfl) ?_
      refine lv_iconst (v := (1 : Int32)) hx hb dL_joins_146 (by decide) ?_
      refine lv_isub hx hb dL_joins_147 ?_
      refine lv_icmp_ne (tgt := 233) hx hb dL_joins_148 (by decide) (fun g => ?_) (fun g => ?_)
      · rw [if_neg g] at h
        refine lv_iconst (v := (0 : Int32)) hx hb dL_joins_233 (by decide) ?_
        obtain rfl := Option.some.inj h
        exact W.zret (v := (0 : Int32)) hx hb hr rfl (fun t ht hW => ⟨⟨_, (), rfl, rfl, by dsimp only; rw [ht]; exact hP⟩, hS.F ht⟩) hS.2.2 dL_joins_234
      · rw [if_pos g] at h
        refine lv_aload_n hx hb dL_joins_151 rfl (lv_at hl 4 rfl) ?_
        refine lv_iconst (v := (4 : Int32)) hx hb dL_joins_152 (by decide) ?_
        obtain ⟨q20, h19, h⟩ := Option.bind_eq_some_iff.mp h
        refine kciA (va_runV (As := [.int (4 : Int32)]) (rest := []) ⟨hx, hb, hml, hown, hts⟩ (aX9_count l D cI cC cS lo aV q18.2 (X) (4 : Int32) h19) (cwV 1 hts gL_joins_X9_count rfl rfl rfl (by decide +kernel) ⟨Nat.le_of_ble_eq_true rfl, Nat.le_of_ble_eq_true rfl⟩) (kpreVA hP hK hN (Nat.le_trans hz hS.1)) rfl rfl hl.1 rfl (lv_room (Nat.le_of_ble_eq_true rfl)) dL_joins_153 ⟨Nat.le_of_ble_eq_true rfl, Nat.le_of_ble_eq_true rfl⟩) hS (fun H locs hP hS => ?_)
        refine lv_iload hx hb dL_joins_156 (lv_at hl 8 rfl) ?_
        refine lv_iload hx hb dL_joins_158 (lv_at hl 2 rfl) ?_
        refine lv_iload hx hb dL_joins_160 (lv_at hl 9 rfl) ?_
        refine lv_isub hx hb dL_joins_162 ?_
        refine lv_isub hx hb dL_joins_163 ?_
        refine lv_icmp_ne (tgt := 233) hx hb dL_joins_164 (by decide) (fun g => ?_) (fun g => ?_)
        · rw [if_neg g] at h
          refine lv_iconst (v := (0 : Int32)) hx hb dL_joins_233 (by decide) ?_
          obtain rfl := Option.some.inj h
          exact W.zret (v := (0 : Int32)) hx hb hr rfl (fun t ht hW => ⟨⟨_, (), rfl, rfl, by dsimp only; rw [ht]; exact hP⟩, hS.F ht⟩) hS.2.2 dL_joins_234
        · rw [if_pos g] at h
          refine lv_aload_n hx hb dL_joins_167 rfl (lv_at hl 4 rfl) ?_
          refine lv_iload_n hx hb dL_joins_168 rfl (lv_at hl 5 rfl) ?_
          refine lv_iload_n hx hb dL_joins_169 rfl (lv_at hl 6 rfl) ?_
          refine lv_iconst (v := (0 : Int32)) hx hb dL_joins_170 (by decide) ?_
          obtain ⟨q22, h21, h⟩ := Option.bind_eq_some_iff.mp h
          refine kciA (va_runV (As := [.int y1, .int y2, .int (0 : Int32)]) (rest := []) ⟨hx, hb, hml, hown, hts⟩ (aX9_beside l D cI cC cS lo aV q18.2 (X) y1 y2 (0 : Int32) h21) (cwV 3 hts gL_joins_X9_beside rfl rfl rfl (by decide +kernel) ⟨Nat.le_of_ble_eq_true rfl, Nat.le_of_ble_eq_true rfl⟩) (kpreVA hP hK hN (Nat.le_trans hz hS.1)) rfl rfl hl.1 rfl (lv_room (Nat.le_of_ble_eq_true rfl)) dL_joins_171 ⟨Nat.le_of_ble_eq_true rfl, Nat.le_of_ble_eq_true rfl⟩) hS (fun H locs hP hS => ?_)
          refine lv_iload hx hb dL_joins_174 (lv_at hl 9 rfl) ?_
          refine lv_icmp_ne (tgt := 233) hx hb dL_joins_176 (by decide) (fun g => ?_) (fun g => ?_)
          · rw [if_neg g] at h
            refine lv_iconst (v := (0 : Int32)) hx hb dL_joins_233 (by decide) ?_
            obtain rfl := Option.some.inj h
            exact W.zret (v := (0 : Int32)) hx hb hr rfl (fun t ht hW => ⟨⟨_, (), rfl, rfl, by dsimp only; rw [ht]; exact hP⟩, hS.F ht⟩) hS.2.2 dL_joins_234
          · rw [if_pos g] at h
            refine lv_aload_n hx hb dL_joins_179 rfl (lv_at hl 4 rfl) ?_
            refine lv_iload_n hx hb dL_joins_180 rfl (lv_at hl 5 rfl) ?_
            refine lv_iload_n hx hb dL_joins_181 rfl (lv_at hl 6 rfl) ?_
            refine lv_iconst (v := (2 : Int32)) hx hb dL_joins_182 (by decide) ?_
            obtain ⟨q24, h23, h⟩ := Option.bind_eq_some_iff.mp h
            refine kciA (va_runV (As := [.int y1, .int y2, .int (2 : Int32)]) (rest := []) ⟨hx, hb, hml, hown, hts⟩ (aX9_verse l D cI cC cS lo aV q18.2 (X) y1 y2 (2 : Int32) h23) (cwV 3 hts gL_joins_X9_verse rfl rfl rfl (by decide +kernel) ⟨Nat.le_of_ble_eq_true rfl, Nat.le_of_ble_eq_true rfl⟩) (kpreVA hP hK hN (Nat.le_trans hz hS.1)) rfl rfl hl.1 rfl (lv_room (Nat.le_of_ble_eq_true rfl)) dL_joins_183 ⟨Nat.le_of_ble_eq_true rfl, Nat.le_of_ble_eq_true rfl⟩) hS (fun H locs hP hS => ?_)
            refine lv_iload hx hb dL_joins_186 (lv_at hl 1 rfl) ?_
            refine lv_sipush (v := (2000 : Int32)) hx hb dL_joins_188 (by decide) ?_
            refine lv_icmp_le (tgt := 200) hx hb dL_joins_191 (by decide) (fun g => ?_) (fun g => ?_)
            · rw [if_pos g] at h
              refine lv_iload hx hb dL_joins_200 (lv_at hl 1 rfl) ?_
              exact j202 q18.2 y1 y2 (q14 + q16) q24 (q10 + q12) _ _ _ h hP hS (lv_sub hl [4, 5, 6, 0] rfl)
            · rw [if_neg g] at h
              refine lv_sipush (v := (2000 : Int32)) hx hb dL_joins_194 (by decide) ?_
              refine lv_goto (tgt := 202) hx hb dL_joins_197 (by decide) ?_
              exact j202 q18.2 y1 y2 (q14 + q16) q24 (2000 : Int32) _ _ _ h hP hS (lv_sub hl [4, 5, 6, 0] rfl)
    · rw [if_neg g] at h
      refine lv_aload_n hx hb dL_joins_62 rfl (lv_at hl 1 rfl) ?_
      refine lv_iload_n hx hb dL_joins_63 rfl (lv_at hl 2 rfl) ?_
      refine lv_iload_n hx hb dL_joins_64 rfl (lv_at hl 3 rfl) ?_
      obtain ⟨q28, h27, h⟩ := Option.bind_eq_some_iff.mp h
      refine kciA (va_runV (As := [.int y1, .int y2]) (rest := []) ⟨hx, hb, hml, hown, hts⟩ (aX9_joinVerses l D cI cC cS lo aV c0_0 (X) y1 y2 h27) (cwV 2 hts gL_joins_X9_joinVerses rfl rfl rfl (by decide +kernel) ⟨Nat.le_of_ble_eq_true rfl, Nat.le_of_ble_eq_true rfl⟩) (kpreVA hP hK hN (Nat.le_trans hz hS.1)) rfl rfl hl.1 rfl (lv_room (Nat.le_of_ble_eq_true rfl)) dL_joins_65 ⟨Nat.le_of_ble_eq_true rfl, Nat.le_of_ble_eq_true rfl⟩) hS (fun H locs hP hS => ?_)
      refine lv_bipush (v := (-4 : Int32)) hx hb dL_joins_68 (by decide) ?_
      refine lv_icmp_ne (tgt := 88) hx hb dL_joins_70 (by decide) (fun g => ?_) (fun g => ?_)
      · rw [if_neg g] at h
        refine lv_iconst (v := (0 : Int32)) hx hb dL_joins_88 (by decide) ?_
        obtain rfl := Option.some.inj h
        exact W.zret (v := (0 : Int32)) hx hb hr rfl (fun t ht hW => ⟨⟨_, (), rfl, rfl, by dsimp only; rw [ht]; exact hP⟩, hS.F ht⟩) hS.2.2 dL_joins_89
      · rw [if_pos g] at h
        refine lv_aload_n hx hb dL_joins_73 rfl (lv_at hl 1 rfl) ?_
        refine lv_iconst (v := (2 : Int32)) hx hb dL_joins_74 (by decide) ?_
        refine lv_iload_n hx hb dL_joins_75 rfl (lv_at hl 2 rfl) ?_
        refine lv_iadd hx hb dL_joins_76 ?_
        obtain ⟨q30, h29, h⟩ := Option.bind_eq_some_iff.mp h
        refine kciA (va_runV (As := [.int ((2 : Int32) + y1)]) (rest := []) ⟨hx, hb, hml, hown, hts⟩ (aX9_count l D cI cC cS lo aV q28.2 (X) ((2 : Int32) + y1) h29) (cwV 1 hts gL_joins_X9_count rfl rfl rfl (by decide +kernel) ⟨Nat.le_of_ble_eq_true rfl, Nat.le_of_ble_eq_true rfl⟩) (kpreVA hP hK hN (Nat.le_trans hz hS.1)) rfl rfl hl.1 rfl (lv_room (Nat.le_of_ble_eq_true rfl)) dL_joins_77 ⟨Nat.le_of_ble_eq_true rfl, Nat.le_of_ble_eq_true rfl⟩) hS (fun H locs hP hS => ?_)
        refine lv_iload_n hx hb dL_joins_80 rfl (lv_at hl 4 rfl) ?_
        refine lv_icmp_ne (tgt := 88) hx hb dL_joins_81 (by decide) (fun g => ?_) (fun g => ?_)
        · rw [if_neg g] at h
          refine lv_iconst (v := (0 : Int32)) hx hb dL_joins_88 (by decide) ?_
          obtain rfl := Option.some.inj h
          exact W.zret (v := (0 : Int32)) hx hb hr rfl (fun t ht hW => ⟨⟨_, (), rfl, rfl, by dsimp only; rw [ht]; exact hP⟩, hS.F ht⟩) hS.2.2 dL_joins_89
        · rw [if_pos g] at h
          refine lv_iconst (v := (1 : Int32)) hx hb dL_joins_84 (by decide) ?_
          refine lv_goto (tgt := 89) hx hb dL_joins_85 (by decide) ?_
          obtain rfl := Option.some.inj h
          exact W.zret (v := (1 : Int32)) hx hb hr rfl (fun t ht hW => ⟨⟨_, (), rfl, rfl, by dsimp only; rw [ht]; exact hP⟩, hS.F ht⟩) hS.2.2 dL_joins_89
  have j50 : ∀ (c0_0 : Sg) (y1 : Int32) (y2 : Int32) (y3 : Int32) (y4 : Int32) (y5 : Int32) (H : Heap) (locs : List Loc) (ls : Array Slot), pL_joins_j50  c0_0 y1 y2 y3 y4 y5 = some q → (aW D cI cC cS lo aV c0_0 X) H → va_S (fun q => lo ≤ q) s.heap H locs → lv_has ls 10 [(0, .ref aV), (1, .int y1), (2, .int y2), (3, .int y3), (4, .int y4), (5, .int y5)] → W p l e ({ frames := 7, cells := 0, slots := 0, locals := 164 } : Room) s m ([.ref aV, .int i2, .int i3] : List Value).toArray below meth c H locs 0 0 (MQ below (va_Qi (fun (r : Int32) (_ : Unit) => r = q.1) (fun _ t => (aW D cI cC cS lo aV q.2 X) t.heap) (fun q => lo ≤ q)) ([.ref aV, .int i2, .int i3] : List Value).toArray s 0 0 (fun q => lo ≤ q)) (F0 m 50 ls []) := by
    clear h hP hS hl
    intro c0_0 y1 y2 y3 y4 y5 H locs ls h hP hS hl
    unfold pL_joins_j50 at h
    refine lv_iconst (v := (1 : Int32)) hx hb dL_joins_50 (by decide) ?_
    refine lv_goto (tgt := 55) hx hb dL_joins_51 (by decide) ?_
    exact j55 c0_0 y1 y2 y3 y4 y5 (1 : Int32) _ _ _ h hP hS (lv_sub hl [0, 1, 2, 3, 4, 5] rfl)
  unfold pL_joins at h
  refine lv_aload_n hx hb dL_joins_0 rfl (lv_at hl 0 rfl) ?_
  refine lv_iconst (v := (2 : Int32)) hx hb dL_joins_1 (by decide) ?_
  refine lv_iload_n hx hb dL_joins_2 rfl (lv_at hl 1 rfl) ?_
  refine lv_iadd hx hb dL_joins_3 ?_
  obtain ⟨q2, h1, h⟩ := Option.bind_eq_some_iff.mp h
  refine kciA (va_runV (As := [.int ((2 : Int32) + i2)]) (rest := []) ⟨hx, hb, hml, hown, hts⟩ (aX9_count l D cI cC cS lo aV vO0 (X) ((2 : Int32) + i2) h1) (cwV 1 hts gL_joins_X9_count rfl rfl rfl (by decide +kernel) ⟨Nat.le_of_ble_eq_true rfl, Nat.le_of_ble_eq_true rfl⟩) (kpreVA hP hK hN (Nat.le_trans hz hS.1)) rfl rfl hl.1 rfl (lv_room (Nat.le_of_ble_eq_true rfl)) dL_joins_4 ⟨Nat.le_of_ble_eq_true rfl, Nat.le_of_ble_eq_true rfl⟩) hS (fun H locs hP hS => ?_)
  refine lv_istore_n (lv' := [(3, .int q2), (0, .ref aV), (1, .int i2), (2, .int i3)]) hx hb dL_joins_7 rfl hl (by decide) rfl (fun ls hl => ?_)
  refine lv_aload_n hx hb dL_joins_8 rfl (lv_at hl 1 rfl) ?_
  refine lv_iconst (v := (4 : Int32)) hx hb dL_joins_9 (by decide) ?_
  obtain ⟨q4, h3, h⟩ := Option.bind_eq_some_iff.mp h
  refine kciA (va_runV (As := [.int (4 : Int32)]) (rest := []) ⟨hx, hb, hml, hown, hts⟩ (aX9_count l D cI cC cS lo aV vO0 (X) (4 : Int32) h3) (cwV 1 hts gL_joins_X9_count rfl rfl rfl (by decide +kernel) ⟨Nat.le_of_ble_eq_true rfl, Nat.le_of_ble_eq_true rfl⟩) (kpreVA hP hK hN (Nat.le_trans hz hS.1)) rfl rfl hl.1 rfl (lv_room (Nat.le_of_ble_eq_true rfl)) dL_joins_10 ⟨Nat.le_of_ble_eq_true rfl, Nat.le_of_ble_eq_true rfl⟩) hS (fun H locs hP hS => ?_)
  refine lv_istore (lv' := [(4, .int q4), (3, .int q2), (0, .ref aV), (1, .int i2), (2, .int i3)]) hx hb dL_joins_13 hl (by decide) rfl (fun ls hl => ?_)
  refine lv_aload_n hx hb dL_joins_15 rfl (lv_at hl 2 rfl) ?_
  refine lv_iload_n hx hb dL_joins_16 rfl (lv_at hl 3 rfl) ?_
  refine lv_iload_n hx hb dL_joins_17 rfl (lv_at hl 4 rfl) ?_
  refine lv_iconst (v := (0 : Int32)) hx hb dL_joins_18 (by decide) ?_
  obtain ⟨q6, h5, h⟩ := Option.bind_eq_some_iff.mp h
  refine kciA (va_runV (As := [.int i2, .int i3, .int (0 : Int32)]) (rest := []) ⟨hx, hb, hml, hown, hts⟩ (aX9_beside l D cI cC cS lo aV vO0 (X) i2 i3 (0 : Int32) h5) (cwV 3 hts gL_joins_X9_beside rfl rfl rfl (by decide +kernel) ⟨Nat.le_of_ble_eq_true rfl, Nat.le_of_ble_eq_true rfl⟩) (kpreVA hP hK hN (Nat.le_trans hz hS.1)) rfl rfl hl.1 rfl (lv_room (Nat.le_of_ble_eq_true rfl)) dL_joins_19 ⟨Nat.le_of_ble_eq_true rfl, Nat.le_of_ble_eq_true rfl⟩) hS (fun H locs hP hS => ?_)
  refine lv_istore (lv' := [(5, .int q6), (4, .int q4), (3, .int q2), (0, .ref aV), (1, .int i2), (2, .int i3)]) hx hb dL_joins_22 hl (by decide) rfl (fun ls hl => ?_)
  refine lv_iload_n hx hb dL_joins_24 rfl (lv_at hl 5 rfl) ?_
  refine lv_iload_n hx hb dL_joins_25 rfl (lv_at hl 2 rfl) ?_
  refine lv_iconst (v := (1 : Int32)) hx hb dL_joins_26 (by decide) ?_
  refine lv_isub hx hb dL_joins_27 ?_
  refine lv_icmp_eq (tgt := 50) hx hb dL_joins_28 (by decide) (fun g => ?_) (fun g => ?_)
  · rw [if_pos g] at h
    exact j50 vO0 i2 i3 q2 q4 q6 _ _ _ h hP hS (lv_sub hl [3, 4, 5, 2, 1, 0] rfl)
  · rw [if_neg g] at h
    refine lv_aload_n hx hb dL_joins_31 rfl (lv_at hl 3 rfl) ?_
    refine lv_iload_n hx hb dL_joins_32 rfl (lv_at hl 4 rfl) ?_
    refine lv_iload_n hx hb dL_joins_33 rfl (lv_at hl 5 rfl) ?_
    refine lv_iconst (v := (0 : Int32)) hx hb dL_joins_34 (by decide) ?_
    obtain ⟨q32, h31, h⟩ := Option.bind_eq_some_iff.mp h
    refine kciA (va_runV (As := [.int i2, .int i3, .int (0 : Int32)]) (rest := []) ⟨hx, hb, hml, hown, hts⟩ (aX9_verse l D cI cC cS lo aV vO0 (X) i2 i3 (0 : Int32) h31) (cwV 3 hts gL_joins_X9_verse rfl rfl rfl (by decide +kernel) ⟨Nat.le_of_ble_eq_true rfl, Nat.le_of_ble_eq_true rfl⟩) (kpreVA hP hK hN (Nat.le_trans hz hS.1)) rfl rfl hl.1 rfl (lv_room (Nat.le_of_ble_eq_true rfl)) dL_joins_35 ⟨Nat.le_of_ble_eq_true rfl, Nat.le_of_ble_eq_true rfl⟩) hS (fun H locs hP hS => ?_)
    refine lv_aload_n hx hb dL_joins_38 rfl (lv_at hl 3 rfl) ?_
    refine lv_iload_n hx hb dL_joins_39 rfl (lv_at hl 4 rfl) ?_
    refine lv_iload_n hx hb dL_joins_40 rfl (lv_at hl 5 rfl) ?_
    refine lv_iconst (v := (1 : Int32)) hx hb dL_joins_41 (by decide) ?_
    refine lv_iadd hx hb dL_joins_42 ?_
    refine lv_iconst (v := (0 : Int32)) hx hb dL_joins_43 (by decide) ?_
    obtain ⟨q34, h33, h⟩ := Option.bind_eq_some_iff.mp h
    refine kciA (va_runV (As := [.int i2, .int (i3 + (1 : Int32)), .int (0 : Int32)]) (rest := [.int q32]) ⟨hx, hb, hml, hown, hts⟩ (aX9_verse l D cI cC cS lo aV vO0 (X) i2 (i3 + (1 : Int32)) (0 : Int32) h33) (cwV 3 hts gL_joins_X9_verse rfl rfl rfl (by decide +kernel) ⟨Nat.le_of_ble_eq_true rfl, Nat.le_of_ble_eq_true rfl⟩) (kpreVA hP hK hN (Nat.le_trans hz hS.1)) rfl rfl hl.1 rfl (lv_room (Nat.le_of_ble_eq_true rfl)) dL_joins_44 ⟨Nat.le_of_ble_eq_true rfl, Nat.le_of_ble_eq_true rfl⟩) hS (fun H locs hP hS => ?_)
    refine lv_icmp_eq (tgt := 54) hx hb dL_joins_47 (by decide) (fun g => ?_) (fun g => ?_)
    · rw [if_pos g] at h
      refine lv_iconst (v := (0 : Int32)) hx hb dL_joins_54 (by decide) ?_
      exact j55 vO0 i2 i3 q2 q4 q6 (0 : Int32) _ _ _ h hP hS (lv_sub hl [3, 4, 5, 2, 1, 0] rfl)
    · rw [if_neg g] at h
      exact j50 vO0 i2 i3 q2 q4 q6 _ _ _ h hP hS (lv_sub hl [3, 4, 5, 2, 1, 0] rfl)
