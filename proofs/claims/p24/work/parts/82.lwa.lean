-- walks of the law's helpers (printed by wip/p24/gen/g3.py)
set_option maxHeartbeats 8000000 in
set_option maxRecDepth 100000 in
theorem kL_low (l : Launch) (D : va_G) (cI cC cS : ClassId) (lo : Nat) (Wd : Heap → Prop) (i1 : Int32) (i2 : Int32) {q : Int32} (h : pL_low i1 i2 = some q) : kAc l yL_low wsL_low ({ frames := 0, cells := 0, slots := 0, locals := 0 } : Room) D (kTy cI cC cS) lo [.int i1, .int i2] Wd Wd q 0 0 := by
  refine Met.ofW (cc := cL_low) (maxL := 2) (ret := (some .int)) (by decide) rfl ?_
  intro p e s m args below meth c s₁ B hml hv
  obtain ⟨rfl, hP, hK, hN, hz⟩ := hv
  have hx := B.exec
  have hb := B.bytes
  have hr := B.returns
  have hts := atoms_spec (ws := wsL_low) B.pre
  have hown : s.vm.findClass RL = some m.cls := findClass_of_methodNamed B.named
  have hlocks := B.notSynchronized
  have hS : va_S (fun q => lo ≤ q) s.heap s.heap [] := va_S.rf
  have hl := lv_entry ([.int i1, .int i2]) (n := 2) (Nat.le_of_ble_eq_true rfl)
  rw [lg_entry_eq]
  generalize (lg_sl ([.int i1, .int i2]) ++ List.replicate (2 - (lg_sl ([.int i1, .int i2])).length) Slot.unset).toArray = ls at hl ⊢
  have hl : lv_has ls 2 [(0, .int i1), (1, .int i2)] := hl
  unfold pL_low at h
  refine lv_iload_n hx hb dL_low_0 rfl (lv_at hl 0 rfl) ?_
  refine lv_ldc (v := (2147483647 : Int32)) hx hb hown (hts (.constant RL 8 (2147483647)) (by decide +kernel)) dL_low_1 ?_
  refine lv_iand hx hb dL_low_3 ?_
  refine lv_iload_n hx hb dL_low_4 rfl (lv_at hl 1 rfl) ?_
  obtain ⟨g, h⟩ := kif h
  refine lv_irem hx hb dL_low_5 g ?_
  obtain rfl := Option.some.inj h
  exact W.iret (v := ((i1 &&& (2147483647 : Int32)) - (i1 &&& (2147483647 : Int32)) / i2 * i2)) hx hb hr (fun t ht hW => ⟨⟨_, (), rfl, rfl, by dsimp only; rw [ht]; exact hP⟩, hS.F ht⟩) hS.2.2 dL_low_6
set_option maxHeartbeats 8000000 in
set_option maxRecDepth 100000 in
theorem kL_books (l : Launch) (D : va_G) (cI cC cS : ClassId) (lo aV : Nat) (vO0 : Sg) (bW : Nat) (vW0 : (Nat → Int32)) {q : Int32} (h : pL_books vO0 vW0 = some q) : kAc l yL_books wsL_books ({ frames := 7, cells := 0, slots := 0, locals := 159 } : Room) D (kTy cI cC cS) lo [.ref aV, .ref bW] (aW D cI cC cS lo aV vO0 (wAR cI bW 2 vW0)) (aW D cI cC cS lo aV vO0 (wAR cI bW 2 vW0)) q 0 0 := by
  refine Met.ofW (cc := cL_books) (maxL := 10) (ret := (some .boolean)) (by decide) rfl ?_
  intro p e s m args below meth c s₁ B hml hv
  obtain ⟨rfl, hP, hK, hN, hz⟩ := hv
  have hx := B.exec
  have hb := B.bytes
  have hr := B.returns
  have hts := atoms_spec (ws := wsL_books) B.pre
  have hown : s.vm.findClass RL = some m.cls := findClass_of_methodNamed B.named
  have hlocks := B.notSynchronized
  have hS : va_S (fun q => lo ≤ q) s.heap s.heap [] := va_S.rf
  have hl := lv_entry ([.ref aV, .ref bW]) (n := 10) (Nat.le_of_ble_eq_true rfl)
  rw [lg_entry_eq]
  generalize (lg_sl ([.ref aV, .ref bW]) ++ List.replicate (10 - (lg_sl ([.ref aV, .ref bW])).length) Slot.unset).toArray = ls at hl ⊢
  have hl : lv_has ls 10 [(0, .ref aV), (1, .ref bW)] := hl
  have L2 : ∀ (nL2 : Nat) (y2 : Int32) (H : Heap) (locs : List Loc) (ls : Array Slot), pL_books_L2 vO0 vW0 nL2 y2 = some q → (aW D cI cC cS lo aV vO0 (wAR cI bW 2 vW0)) H → va_S (fun q => lo ≤ q) s.heap H locs → lv_has ls 10 [(0, .ref aV), (1, .ref bW), (2, .int y2)] → W p l e ({ frames := 7, cells := 0, slots := 0, locals := 159 } : Room) s m ([.ref aV, .ref bW] : List Value).toArray below meth c H locs 0 0 (MQ below (va_Qi (fun (r : Int32) (_ : Unit) => r = q) (fun _ t => (aW D cI cC cS lo aV vO0 (wAR cI bW 2 vW0)) t.heap) (fun q => lo ≤ q)) ([.ref aV, .ref bW] : List Value).toArray s 0 0 (fun q => lo ≤ q)) (F0 m 2 ls []) := by
    clear h hP hS hl
    intro nL2
    induction nL2 with
    | zero => intro y2 H locs ls h; have h : (none : Option (Int32)) = some q := h; cases h
    | succ nL2 ihL2 =>
      have L12 : ∀ (nL12 : Nat) (y2 : Int32) (y3 : Int32) (y4 : Int32) (H : Heap) (locs : List Loc) (ls : Array Slot), pL_books_L12 vO0 vW0 (pL_books_L2 vO0 vW0 nL2) nL12 y2 y3 y4 = some q → (aW D cI cC cS lo aV vO0 (wAR cI bW 2 vW0)) H → va_S (fun q => lo ≤ q) s.heap H locs → lv_has ls 10 [(0, .ref aV), (1, .ref bW), (2, .int y2), (3, .int y3), (4, .int y4)] → W p l e ({ frames := 7, cells := 0, slots := 0, locals := 159 } : Room) s m ([.ref aV, .ref bW] : List Value).toArray below meth c H locs 0 0 (MQ below (va_Qi (fun (r : Int32) (_ : Unit) => r = q) (fun _ t => (aW D cI cC cS lo aV vO0 (wAR cI bW 2 vW0)) t.heap) (fun q => lo ≤ q)) ([.ref aV, .ref bW] : List Value).toArray s 0 0 (fun q => lo ≤ q)) (F0 m 12 ls []) := by
        intro nL12
        induction nL12 with
        | zero => intro y2 y3 y4 H locs ls h; have h : (none : Option (Int32)) = some q := h; cases h
        | succ nL12 ihL12 =>
          have L71 : ∀ (nL71 : Nat) (y2 : Int32) (y3 : Int32) (y4 : Int32) (y5 : Int32) (y6 : Int32) (y7 : Int32) (H : Heap) (locs : List Loc) (ls : Array Slot), pL_books_L71 vO0 vW0 (pL_books_L2 vO0 vW0 nL2) (pL_books_L12 vO0 vW0 (pL_books_L2 vO0 vW0 nL2) nL12) nL71 y2 y3 y4 y5 y6 y7 = some q → (aW D cI cC cS lo aV vO0 (wAR cI bW 2 vW0)) H → va_S (fun q => lo ≤ q) s.heap H locs → lv_has ls 10 [(0, .ref aV), (1, .ref bW), (2, .int y2), (3, .int y3), (4, .int y4), (5, .int y5), (6, .int y6), (7, .int y7)] → W p l e ({ frames := 7, cells := 0, slots := 0, locals := 159 } : Room) s m ([.ref aV, .ref bW] : List Value).toArray below meth c H locs 0 0 (MQ below (va_Qi (fun (r : Int32) (_ : Unit) => r = q) (fun _ t => (aW D cI cC cS lo aV vO0 (wAR cI bW 2 vW0)) t.heap) (fun q => lo ≤ q)) ([.ref aV, .ref bW] : List Value).toArray s 0 0 (fun q => lo ≤ q)) (F0 m 71 ls []) := by
            intro nL71
            induction nL71 with
            | zero => intro y2 y3 y4 y5 y6 y7 H locs ls h; have h : (none : Option (Int32)) = some q := h; cases h
            | succ nL71 ihL71 =>
              intro y2 y3 y4 y5 y6 y7 H locs ls h hP hS hl
              have h : pL_books_bL71 vO0 vW0 (pL_books_L2 vO0 vW0 nL2) (pL_books_L12 vO0 vW0 (pL_books_L2 vO0 vW0 nL2) nL12) (pL_books_L71 vO0 vW0 (pL_books_L2 vO0 vW0 nL2) (pL_books_L12 vO0 vW0 (pL_books_L2 vO0 vW0 nL2) nL12) nL71) y2 y3 y4 y5 y6 y7 = some q := h
              unfold pL_books_bL71 at h
              refine lv_iload hx hb dL_books_71 (lv_at hl 7 rfl) ?_
              refine lv_iload hx hb dL_books_73 (lv_at hl 5 rfl) ?_
              refine lv_icmp_ge (tgt := 230) hx hb dL_books_75 (by decide) (fun g => ?_) (fun g => ?_)
              · rw [if_pos g] at h
                refine lv_aload_n hx hb dL_books_230 rfl (lv_at hl 0 rfl) ?_
                refine lv_iload_n hx hb dL_books_231 rfl (lv_at hl 2 rfl) ?_
                refine lv_iload hx hb dL_books_232 (lv_at hl 4 rfl) ?_
                refine lv_iconst (v := (2 : Int32)) hx hb dL_books_234 (by decide) ?_
                obtain ⟨q26, h25, h⟩ := Option.bind_eq_some_iff.mp h
                refine kciA (va_runV (As := [.int y2, .int y4, .int (2 : Int32)]) (rest := []) ⟨hx, hb, hml, hown, hts⟩ (aX9_chapter l D cI cC cS lo aV vO0 (wAR cI bW 2 vW0) y2 y4 (2 : Int32) h25) (cwV 3 hts gL_books_X9_chapter rfl rfl rfl (by decide +kernel) ⟨Nat.le_of_ble_eq_true rfl, Nat.le_of_ble_eq_true rfl⟩) (kpreVA hP hK hN (Nat.le_trans hz hS.1)) rfl rfl hl.1 rfl (lv_room (Nat.le_of_ble_eq_true rfl)) dL_books_235 ⟨Nat.le_of_ble_eq_true rfl, Nat.le_of_ble_eq_true rfl⟩) hS (fun H locs hP hS => ?_)
                refine lv_iload hx hb dL_books_238 (lv_at hl 6 rfl) ?_
                refine lv_icmp_eq (tgt := 245) hx hb dL_books_240 (by decide) (fun g => ?_) (fun g => ?_)
                · rw [if_pos g] at h
                  refine lv_iload_n hx hb dL_books_245 rfl (lv_at hl 3 rfl) ?_
                  refine lv_iload hx hb dL_books_246 (lv_at hl 5 rfl) ?_
                  refine lv_iadd hx hb dL_books_248 ?_
                  refine lv_istore_n (lv' := [(3, .int (y3 + y5)), (0, .ref aV), (1, .ref bW), (2, .int y2), (4, .int y4), (5, .int y5), (6, .int y6), (7, .int y7)]) hx hb dL_books_249 rfl hl (by decide) rfl (fun ls hl => ?_)
                  refine lv_iinc (v := (y4 + (1 : Int32))) (lv' := [(4, .int (y4 + (1 : Int32))), (3, .int (y3 + y5)), (0, .ref aV), (1, .ref bW), (2, .int y2), (5, .int y5), (6, .int y6), (7, .int y7)]) hx hb dL_books_250 hl (k := 4) rfl rfl (by decide) rfl (fun ls hl => ?_)
                  refine lv_goto (tgt := 12) hx hb dL_books_253 (by decide) ?_
                  exact ihL12 y2 (y3 + y5) (y4 + (1 : Int32)) _ _ _ h hP hS (lv_sub hl [2, 3, 4, 1, 0] rfl)
                · rw [if_neg g] at h
                  refine lv_iconst (v := (0 : Int32)) hx hb dL_books_243 (by decide) ?_
                  obtain rfl := Option.some.inj h
                  exact W.zret (v := (0 : Int32)) hx hb hr rfl (fun t ht hW => ⟨⟨_, (), rfl, rfl, by dsimp only; rw [ht]; exact hP⟩, hS.F ht⟩) hS.2.2 dL_books_244
              · rw [if_neg g] at h
                refine lv_aload_n hx hb dL_books_78 rfl (lv_at hl 0 rfl) ?_
                refine lv_iload_n hx hb dL_books_79 rfl (lv_at hl 2 rfl) ?_
                refine lv_iload_n hx hb dL_books_80 rfl (lv_at hl 3 rfl) ?_
                refine lv_iload hx hb dL_books_81 (lv_at hl 7 rfl) ?_
                refine lv_iadd hx hb dL_books_83 ?_
                refine lv_iconst (v := (2 : Int32)) hx hb dL_books_84 (by decide) ?_
                obtain ⟨q28, h27, h⟩ := Option.bind_eq_some_iff.mp h
                refine kciA (va_runV (As := [.int y2, .int (y3 + y7), .int (2 : Int32)]) (rest := []) ⟨hx, hb, hml, hown, hts⟩ (aX9_verse l D cI cC cS lo aV vO0 (wAR cI bW 2 vW0) y2 (y3 + y7) (2 : Int32) h27) (cwV 3 hts gL_books_X9_verse rfl rfl rfl (by decide +kernel) ⟨Nat.le_of_ble_eq_true rfl, Nat.le_of_ble_eq_true rfl⟩) (kpreVA hP hK hN (Nat.le_trans hz hS.1)) rfl rfl hl.1 rfl (lv_room (Nat.le_of_ble_eq_true rfl)) dL_books_85 ⟨Nat.le_of_ble_eq_true rfl, Nat.le_of_ble_eq_true rfl⟩) hS (fun H locs hP hS => ?_)
                refine lv_istore (lv' := [(8, .int q28), (0, .ref aV), (1, .ref bW), (2, .int y2), (3, .int y3), (4, .int y4), (5, .int y5), (6, .int y6), (7, .int y7)]) hx hb dL_books_88 hl (by decide) rfl (fun ls hl => ?_)
                refine lv_aload_n hx hb dL_books_90 rfl (lv_at hl 1 rfl) ?_
                refine lv_iload_n hx hb dL_books_91 rfl (lv_at hl 3 rfl) ?_
                refine lv_iload_n hx hb dL_books_92 rfl (lv_at hl 4 rfl) ?_
                refine lv_iload hx hb dL_books_93 (lv_at hl 8 rfl) ?_
                refine lv_iadd hx hb dL_books_95 ?_
                refine lv_iconst (v := (4 : Int32)) hx hb dL_books_96 (by decide) ?_
                obtain ⟨q30, h29, h⟩ := Option.bind_eq_some_iff.mp h
                refine kciA (va_runV (As := [.int y2, .int (y3 + y7), .int (4 : Int32)]) (rest := []) ⟨hx, hb, hml, hown, hts⟩ (aX9_verse l D cI cC cS lo aV vO0 (wAR cI bW 2 vW0) y2 (y3 + y7) (4 : Int32) h29) (cwV 3 hts gL_books_X9_verse rfl rfl rfl (by decide +kernel) ⟨Nat.le_of_ble_eq_true rfl, Nat.le_of_ble_eq_true rfl⟩) (kpreVA hP hK hN (Nat.le_trans hz hS.1)) rfl rfl hl.1 rfl (lv_room (Nat.le_of_ble_eq_true rfl)) dL_books_97 ⟨Nat.le_of_ble_eq_true rfl, Nat.le_of_ble_eq_true rfl⟩) hS (fun H locs hP hS => ?_)
                refine lv_istore (lv' := [(9, .int q30), (8, .int q28), (0, .ref aV), (1, .ref bW), (2, .int y2), (3, .int y3), (4, .int y4), (5, .int y5), (6, .int y6), (7, .int y7)]) hx hb dL_books_100 hl (by decide) rfl (fun ls hl => ?_)
                refine lv_iload hx hb dL_books_102 (lv_at hl 8 rfl) ?_
                refine lv_iload hx hb dL_books_104 (lv_at hl 1 rfl) ?_
                refine lv_iadd hx hb dL_books_106 ?_
                refine lv_istore (lv' := [(6, .int (y6 + q28)), (9, .int q30), (8, .int q28), (0, .ref aV), (1, .ref bW), (2, .int y2), (3, .int y3), (4, .int y4), (5, .int y5), (7, .int y7)]) hx hb dL_books_107 hl (by decide) rfl (fun ls hl => ?_)
                refine lv_aload_n hx hb dL_books_109 rfl (lv_at hl 3 rfl) ?_
                refine lv_iload_n hx hb dL_books_110 rfl (lv_at hl 5 rfl) ?_
                refine lv_iload_n hx hb dL_books_111 rfl (lv_at hl 6 rfl) ?_
                refine lv_iload hx hb dL_books_112 (lv_at hl 9 rfl) ?_
                refine lv_iadd hx hb dL_books_114 ?_
                refine lv_iconst (v := (0 : Int32)) hx hb dL_books_115 (by decide) ?_
                obtain ⟨q32, h31, h⟩ := Option.bind_eq_some_iff.mp h
                refine kciA (va_runV (As := [.int y2, .int (y3 + y7), .int (0 : Int32)]) (rest := []) ⟨hx, hb, hml, hown, hts⟩ (aX9_verse l D cI cC cS lo aV vO0 (wAR cI bW 2 vW0) y2 (y3 + y7) (0 : Int32) h31) (cwV 3 hts gL_books_X9_verse rfl rfl rfl (by decide +kernel) ⟨Nat.le_of_ble_eq_true rfl, Nat.le_of_ble_eq_true rfl⟩) (kpreVA hP hK hN (Nat.le_trans hz hS.1)) rfl rfl hl.1 rfl (lv_room (Nat.le_of_ble_eq_true rfl)) dL_books_116 ⟨Nat.le_of_ble_eq_true rfl, Nat.le_of_ble_eq_true rfl⟩) hS (fun H locs hP hS => ?_)
                refine lv_iload hx hb dL_books_119 (lv_at hl 7 rfl) ?_
                refine lv_icmp_ne (tgt := 222) hx hb dL_books_121 (by decide) (fun g => ?_) (fun g => ?_)
                · rw [if_neg g] at h
                  refine lv_iconst (v := (0 : Int32)) hx hb dL_books_222 (by decide) ?_
                  obtain rfl := Option.some.inj h
                  exact W.zret (v := (0 : Int32)) hx hb hr rfl (fun t ht hW => ⟨⟨_, (), rfl, rfl, by dsimp only; rw [ht]; exact hP⟩, hS.F ht⟩) hS.2.2 dL_books_223
                · rw [if_pos g] at h
                  refine lv_aload_n hx hb dL_books_124 rfl (lv_at hl 3 rfl) ?_
                  refine lv_iload_n hx hb dL_books_125 rfl (lv_at hl 5 rfl) ?_
                  refine lv_iload_n hx hb dL_books_126 rfl (lv_at hl 6 rfl) ?_
                  refine lv_iload hx hb dL_books_127 (lv_at hl 9 rfl) ?_
                  refine lv_iadd hx hb dL_books_129 ?_
                  refine lv_iconst (v := (1 : Int32)) hx hb dL_books_130 (by decide) ?_
                  obtain ⟨q34, h33, h⟩ := Option.bind_eq_some_iff.mp h
                  refine kciA (va_runV (As := [.int y2, .int (y3 + y7), .int (1 : Int32)]) (rest := []) ⟨hx, hb, hml, hown, hts⟩ (aX9_verse l D cI cC cS lo aV vO0 (wAR cI bW 2 vW0) y2 (y3 + y7) (1 : Int32) h33) (cwV 3 hts gL_books_X9_verse rfl rfl rfl (by decide +kernel) ⟨Nat.le_of_ble_eq_true rfl, Nat.le_of_ble_eq_true rfl⟩) (kpreVA hP hK hN (Nat.le_trans hz hS.1)) rfl rfl hl.1 rfl (lv_room (Nat.le_of_ble_eq_true rfl)) dL_books_131 ⟨Nat.le_of_ble_eq_true rfl, Nat.le_of_ble_eq_true rfl⟩) hS (fun H locs hP hS => ?_)
                  refine lv_iload hx hb dL_books_134 (lv_at hl 9 rfl) ?_
                  refine lv_iconst (v := (1 : Int32)) hx hb dL_books_136 (by decide) ?_
                  refine lv_iadd hx hb dL_books_137 ?_
                  refine lv_icmp_ne (tgt := 222) hx hb dL_books_138 (by decide) (fun g => ?_) (fun g => ?_)
                  · rw [if_neg g] at h
                    refine lv_iconst (v := (0 : Int32)) hx hb dL_books_222 (by decide) ?_
                    obtain rfl := Option.some.inj h
                    exact W.zret (v := (0 : Int32)) hx hb hr rfl (fun t ht hW => ⟨⟨_, (), rfl, rfl, by dsimp only; rw [ht]; exact hP⟩, hS.F ht⟩) hS.2.2 dL_books_223
                  · rw [if_pos g] at h
                    refine lv_iload hx hb dL_books_141 (lv_at hl 2 rfl) ?_
                    refine lv_iconst (v := (1 : Int32)) hx hb dL_books_143 (by decide) ?_
                    refine lv_icmp_lt (tgt := 222) hx hb dL_books_144 (by decide) (fun g => ?_) (fun g => ?_)
                    · rw [if_pos g] at h
                      refine lv_iconst (v := (0 : Int32)) hx hb dL_books_222 (by decide) ?_
                      obtain rfl := Option.some.inj h
                      exact W.zret (v := (0 : Int32)) hx hb hr rfl (fun t ht hW => ⟨⟨_, (), rfl, rfl, by dsimp only; rw [ht]; exact hP⟩, hS.F ht⟩) hS.2.2 dL_books_223
                    · rw [if_neg g] at h
                      refine lv_iload hx hb dL_books_147 (lv_at hl 2 rfl) ?_
                      refine lv_sipush (v := (2000 : Int32)) hx hb dL_books_149 (by decide) ?_
                      refine lv_icmp_gt (tgt := 222) hx hb dL_books_152 (by decide) (fun g => ?_) (fun g => ?_)
                      · rw [if_pos g] at h
                        refine lv_iconst (v := (0 : Int32)) hx hb dL_books_222 (by decide) ?_
                        obtain rfl := Option.some.inj h
                        exact W.zret (v := (0 : Int32)) hx hb hr rfl (fun t ht hW => ⟨⟨_, (), rfl, rfl, by dsimp only; rw [ht]; exact hP⟩, hS.F ht⟩) hS.2.2 dL_books_223
                      · rw [if_neg g] at h
                        refine lv_aload_n hx hb dL_books_155 rfl (lv_at hl 3 rfl) ?_
                        refine lv_iload_n hx hb dL_books_156 rfl (lv_at hl 5 rfl) ?_
                        refine lv_iload_n hx hb dL_books_157 rfl (lv_at hl 6 rfl) ?_
                        refine lv_iload hx hb dL_books_158 (lv_at hl 9 rfl) ?_
                        refine lv_iadd hx hb dL_books_160 ?_
                        refine lv_iconst (v := (3 : Int32)) hx hb dL_books_161 (by decide) ?_
                        obtain ⟨q36, h35, h⟩ := Option.bind_eq_some_iff.mp h
                        refine kciA (va_runV (As := [.int y2, .int (y3 + y7), .int (3 : Int32)]) (rest := []) ⟨hx, hb, hml, hown, hts⟩ (aX9_verse l D cI cC cS lo aV vO0 (wAR cI bW 2 vW0) y2 (y3 + y7) (3 : Int32) h35) (cwV 3 hts gL_books_X9_verse rfl rfl rfl (by decide +kernel) ⟨Nat.le_of_ble_eq_true rfl, Nat.le_of_ble_eq_true rfl⟩) (kpreVA hP hK hN (Nat.le_trans hz hS.1)) rfl rfl hl.1 rfl (lv_room (Nat.le_of_ble_eq_true rfl)) dL_books_162 ⟨Nat.le_of_ble_eq_true rfl, Nat.le_of_ble_eq_true rfl⟩) hS (fun H locs hP hS => ?_)
                        refine lv_if_lt (tgt := 222) hx hb dL_books_165 (by decide) (fun g => ?_) (fun g => ?_)
                        · rw [if_pos g] at h
                          refine lv_iconst (v := (0 : Int32)) hx hb dL_books_222 (by decide) ?_
                          obtain rfl := Option.some.inj h
                          exact W.zret (v := (0 : Int32)) hx hb hr rfl (fun t ht hW => ⟨⟨_, (), rfl, rfl, by dsimp only; rw [ht]; exact hP⟩, hS.F ht⟩) hS.2.2 dL_books_223
                        · rw [if_neg g] at h
                          refine lv_aload_n hx hb dL_books_168 rfl (lv_at hl 3 rfl) ?_
                          refine lv_iload_n hx hb dL_books_169 rfl (lv_at hl 5 rfl) ?_
                          refine lv_iload_n hx hb dL_books_170 rfl (lv_at hl 6 rfl) ?_
                          refine lv_iload hx hb dL_books_171 (lv_at hl 9 rfl) ?_
                          refine lv_iadd hx hb dL_books_173 ?_
                          refine lv_iconst (v := (3 : Int32)) hx hb dL_books_174 (by decide) ?_
                          obtain ⟨q38, h37, h⟩ := Option.bind_eq_some_iff.mp h
                          refine kciA (va_runV (As := [.int y2, .int (y3 + y7), .int (3 : Int32)]) (rest := []) ⟨hx, hb, hml, hown, hts⟩ (aX9_verse l D cI cC cS lo aV vO0 (wAR cI bW 2 vW0) y2 (y3 + y7) (3 : Int32) h37) (cwV 3 hts gL_books_X9_verse rfl rfl rfl (by decide +kernel) ⟨Nat.le_of_ble_eq_true rfl, Nat.le_of_ble_eq_true rfl⟩) (kpreVA hP hK hN (Nat.le_trans hz hS.1)) rfl rfl hl.1 rfl (lv_room (Nat.le_of_ble_eq_true rfl)) dL_books_175 ⟨Nat.le_of_ble_eq_true rfl, Nat.le_of_ble_eq_true rfl⟩) hS (fun H locs hP hS => ?_)
                          refine lv_bipush (v := (10 : Int32)) hx hb dL_books_178 (by decide) ?_
                          refine lv_icmp_gt (tgt := 222) hx hb dL_books_180 (by decide) (fun g => ?_) (fun g => ?_)
                          · rw [if_pos g] at h
                            refine lv_iconst (v := (0 : Int32)) hx hb dL_books_222 (by decide) ?_
                            obtain rfl := Option.some.inj h
                            exact W.zret (v := (0 : Int32)) hx hb hr rfl (fun t ht hW => ⟨⟨_, (), rfl, rfl, by dsimp only; rw [ht]; exact hP⟩, hS.F ht⟩) hS.2.2 dL_books_223
                          · rw [if_neg g] at h
                            refine lv_iload hx hb dL_books_183 (lv_at hl 1 rfl) ?_
                            refine lv_aload_n hx hb dL_books_185 rfl (lv_at hl 4 rfl) ?_
                            refine lv_iload_n hx hb dL_books_186 rfl (lv_at hl 5 rfl) ?_
                            obtain ⟨g, h⟩ := kif h
                            refine va_iald hx hb hK hP.xp 0 0 rfl rfl (kin g) dL_books_187 ?_
                            refine lv_imul hx hb dL_books_188 ?_
                            refine lv_iload hx hb dL_books_189 (lv_at hl 2 rfl) ?_
                            refine lv_icmp_lt (tgt := 222) hx hb dL_books_191 (by decide) (fun g => ?_) (fun g => ?_)
                            · rw [if_pos g] at h
                              refine lv_iconst (v := (0 : Int32)) hx hb dL_books_222 (by decide) ?_
                              obtain rfl := Option.some.inj h
                              exact W.zret (v := (0 : Int32)) hx hb hr rfl (fun t ht hW => ⟨⟨_, (), rfl, rfl, by dsimp only; rw [ht]; exact hP⟩, hS.F ht⟩) hS.2.2 dL_books_223
                            · rw [if_neg g] at h
                              refine lv_iload hx hb dL_books_194 (lv_at hl 1 rfl) ?_
                              refine lv_iconst (v := (1 : Int32)) hx hb dL_books_196 (by decide) ?_
                              refine lv_isub hx hb dL_books_197 ?_
                              refine lv_aload_n hx hb dL_books_198 rfl (lv_at hl 4 rfl) ?_
                              refine lv_iload_n hx hb dL_books_199 rfl (lv_at hl 5 rfl) ?_
                              obtain ⟨g, h⟩ := kif h
                              refine va_iald hx hb hK hP.xp 0 0 rfl rfl (kin g) dL_books_200 ?_
                              refine lv_imul hx hb dL_books_201 ?_
                              refine lv_iload hx hb dL_books_202 (lv_at hl 2 rfl) ?_
                              refine lv_icmp_ge (tgt := 222) hx hb dL_books_204 (by decide) (fun g => ?_) (fun g => ?_)
                              · rw [if_pos g] at h
                                refine lv_iconst (v := (0 : Int32)) hx hb dL_books_222 (by decide) ?_
                                obtain rfl := Option.some.inj h
                                exact W.zret (v := (0 : Int32)) hx hb hr rfl (fun t ht hW => ⟨⟨_, (), rfl, rfl, by dsimp only; rw [ht]; exact hP⟩, hS.F ht⟩) hS.2.2 dL_books_223
                              · rw [if_neg g] at h
                                refine lv_aload_n hx hb dL_books_207 rfl (lv_at hl 3 rfl) ?_
                                refine lv_iload_n hx hb dL_books_208 rfl (lv_at hl 5 rfl) ?_
                                refine lv_iload_n hx hb dL_books_209 rfl (lv_at hl 6 rfl) ?_
                                refine lv_iload hx hb dL_books_210 (lv_at hl 9 rfl) ?_
                                refine lv_iadd hx hb dL_books_212 ?_
                                refine lv_iconst (v := (5 : Int32)) hx hb dL_books_213 (by decide) ?_
                                obtain ⟨q40, h39, h⟩ := Option.bind_eq_some_iff.mp h
                                refine kciA (va_runV (As := [.int y2, .int (y3 + y7), .int (5 : Int32)]) (rest := []) ⟨hx, hb, hml, hown, hts⟩ (aX9_verse l D cI cC cS lo aV vO0 (wAR cI bW 2 vW0) y2 (y3 + y7) (5 : Int32) h39) (cwV 3 hts gL_books_X9_verse rfl rfl rfl (by decide +kernel) ⟨Nat.le_of_ble_eq_true rfl, Nat.le_of_ble_eq_true rfl⟩) (kpreVA hP hK hN (Nat.le_trans hz hS.1)) rfl rfl hl.1 rfl (lv_room (Nat.le_of_ble_eq_true rfl)) dL_books_214 ⟨Nat.le_of_ble_eq_true rfl, Nat.le_of_ble_eq_true rfl⟩) hS (fun H locs hP hS => ?_)
                                refine lv_bipush (v := (-2 : Int32)) hx hb dL_books_217 (by decide) ?_
                                refine lv_icmp_eq (tgt := 224) hx hb dL_books_219 (by decide) (fun g => ?_) (fun g => ?_)
                                · rw [if_pos g] at h
                                  refine lv_iinc (v := (y7 + (1 : Int32))) (lv' := [(7, .int (y7 + (1 : Int32))), (6, .int (y6 + q28)), (9, .int q30), (8, .int q28), (0, .ref aV), (1, .ref bW), (2, .int y2), (3, .int y3), (4, .int y4), (5, .int y5)]) hx hb dL_books_224 hl (k := 9) rfl rfl (by decide) rfl (fun ls hl => ?_)
                                  refine lv_goto (tgt := 71) hx hb dL_books_227 (by decide) ?_
                                  exact ihL71 y2 y3 y4 y5 (y6 + q28) (y7 + (1 : Int32)) _ _ _ h hP hS (lv_sub hl [4, 5, 6, 7, 8, 9, 1, 0] rfl)
                                · rw [if_neg g] at h
                                  refine lv_iconst (v := (0 : Int32)) hx hb dL_books_222 (by decide) ?_
                                  obtain rfl := Option.some.inj h
                                  exact W.zret (v := (0 : Int32)) hx hb hr rfl (fun t ht hW => ⟨⟨_, (), rfl, rfl, by dsimp only; rw [ht]; exact hP⟩, hS.F ht⟩) hS.2.2 dL_books_223
          intro y2 y3 y4 H locs ls h hP hS hl
          have h : pL_books_bL12 vO0 vW0 (pL_books_L2 vO0 vW0 nL2) (pL_books_L12 vO0 vW0 (pL_books_L2 vO0 vW0 nL2) nL12) y2 y3 y4 = some q := h
          unfold pL_books_bL12 at h
          refine lv_iload hx hb dL_books_12 (lv_at hl 4 rfl) ?_
          refine lv_aload_n hx hb dL_books_14 rfl (lv_at hl 0 rfl) ?_
          refine lv_iload_n hx hb dL_books_15 rfl (lv_at hl 2 rfl) ?_
          obtain ⟨q8, h7, h⟩ := Option.bind_eq_some_iff.mp h
          refine kciA (va_runV (As := [.int y2]) (rest := [.int y4]) ⟨hx, hb, hml, hown, hts⟩ (aX9_count l D cI cC cS lo aV vO0 (wAR cI bW 2 vW0) y2 h7) (cwV 1 hts gL_books_X9_count rfl rfl rfl (by decide +kernel) ⟨Nat.le_of_ble_eq_true rfl, Nat.le_of_ble_eq_true rfl⟩) (kpreVA hP hK hN (Nat.le_trans hz hS.1)) rfl rfl hl.1 rfl (lv_room (Nat.le_of_ble_eq_true rfl)) dL_books_16 ⟨Nat.le_of_ble_eq_true rfl, Nat.le_of_ble_eq_true rfl⟩) hS (fun H locs hP hS => ?_)
          refine lv_icmp_gt (tgt := 256) hx hb dL_books_19 (by decide) (fun g => ?_) (fun g => ?_)
          · rw [if_pos g] at h
            refine lv_aload_n hx hb dL_books_256 rfl (lv_at hl 0 rfl) ?_
            refine lv_iconst (v := (2 : Int32)) hx hb dL_books_257 (by decide) ?_
            refine lv_iload_n hx hb dL_books_258 rfl (lv_at hl 2 rfl) ?_
            refine lv_iadd hx hb dL_books_259 ?_
            obtain ⟨q10, h9, h⟩ := Option.bind_eq_some_iff.mp h
            refine kciA (va_runV (As := [.int ((2 : Int32) + y2)]) (rest := []) ⟨hx, hb, hml, hown, hts⟩ (aX9_count l D cI cC cS lo aV vO0 (wAR cI bW 2 vW0) ((2 : Int32) + y2) h9) (cwV 1 hts gL_books_X9_count rfl rfl rfl (by decide +kernel) ⟨Nat.le_of_ble_eq_true rfl, Nat.le_of_ble_eq_true rfl⟩) (kpreVA hP hK hN (Nat.le_trans hz hS.1)) rfl rfl hl.1 rfl (lv_room (Nat.le_of_ble_eq_true rfl)) dL_books_260 ⟨Nat.le_of_ble_eq_true rfl, Nat.le_of_ble_eq_true rfl⟩) hS (fun H locs hP hS => ?_)
            refine lv_iload_n hx hb dL_books_263 rfl (lv_at hl 3 rfl) ?_
            refine lv_icmp_ne (tgt := 312) hx hb dL_books_264 (by decide) (fun g => ?_) (fun g => ?_)
            · rw [if_neg g] at h
              refine lv_iconst (v := (0 : Int32)) hx hb dL_books_312 (by decide) ?_
              obtain rfl := Option.some.inj h
              exact W.zret (v := (0 : Int32)) hx hb hr rfl (fun t ht hW => ⟨⟨_, (), rfl, rfl, by dsimp only; rw [ht]; exact hP⟩, hS.F ht⟩) hS.2.2 dL_books_313
            · rw [if_pos g] at h
              refine lv_iload_n hx hb dL_books_267 rfl (lv_at hl 3 rfl) ?_
              refine lv_bipush (v := (60 : Int32)) hx hb dL_books_268 (by decide) ?_
              refine lv_icmp_gt (tgt := 312) hx hb dL_books_270 (by decide) (fun g => ?_) (fun g => ?_)
              · rw [if_pos g] at h
                refine lv_iconst (v := (0 : Int32)) hx hb dL_books_312 (by decide) ?_
                obtain rfl := Option.some.inj h
                exact W.zret (v := (0 : Int32)) hx hb hr rfl (fun t ht hW => ⟨⟨_, (), rfl, rfl, by dsimp only; rw [ht]; exact hP⟩, hS.F ht⟩) hS.2.2 dL_books_313
              · rw [if_neg g] at h
                refine lv_aload_n hx hb dL_books_273 rfl (lv_at hl 0 rfl) ?_
                refine lv_iload_n hx hb dL_books_274 rfl (lv_at hl 2 rfl) ?_
                refine lv_iload_n hx hb dL_books_275 rfl (lv_at hl 3 rfl) ?_
                refine lv_iconst (v := (0 : Int32)) hx hb dL_books_276 (by decide) ?_
                obtain ⟨q12, h11, h⟩ := Option.bind_eq_some_iff.mp h
                refine kciA (va_runV (As := [.int y2, .int y3, .int (0 : Int32)]) (rest := []) ⟨hx, hb, hml, hown, hts⟩ (aX9_verse l D cI cC cS lo aV vO0 (wAR cI bW 2 vW0) y2 y3 (0 : Int32) h11) (cwV 3 hts gL_books_X9_verse rfl rfl rfl (by decide +kernel) ⟨Nat.le_of_ble_eq_true rfl, Nat.le_of_ble_eq_true rfl⟩) (kpreVA hP hK hN (Nat.le_trans hz hS.1)) rfl rfl hl.1 rfl (lv_room (Nat.le_of_ble_eq_true rfl)) dL_books_277 ⟨Nat.le_of_ble_eq_true rfl, Nat.le_of_ble_eq_true rfl⟩) hS (fun H locs hP hS => ?_)
                refine lv_iconst (v := (-1 : Int32)) hx hb dL_books_280 (by decide) ?_
                refine lv_icmp_ne (tgt := 312) hx hb dL_books_281 (by decide) (fun g => ?_) (fun g => ?_)
                · rw [if_neg g] at h
                  refine lv_iconst (v := (0 : Int32)) hx hb dL_books_312 (by decide) ?_
                  obtain rfl := Option.some.inj h
                  exact W.zret (v := (0 : Int32)) hx hb hr rfl (fun t ht hW => ⟨⟨_, (), rfl, rfl, by dsimp only; rw [ht]; exact hP⟩, hS.F ht⟩) hS.2.2 dL_books_313
                · rw [if_pos g] at h
                  refine lv_aload_n hx hb dL_books_284 rfl (lv_at hl 0 rfl) ?_
                  refine lv_iload_n hx hb dL_books_285 rfl (lv_at hl 2 rfl) ?_
                  refine lv_iconst (v := (0 : Int32)) hx hb dL_books_286 (by decide) ?_
                  refine lv_iconst (v := (0 : Int32)) hx hb dL_books_287 (by decide) ?_
                  obtain ⟨q14, h13, h⟩ := Option.bind_eq_some_iff.mp h
                  refine kciA (va_runV (As := [.int y2, .int (0 : Int32), .int (0 : Int32)]) (rest := []) ⟨hx, hb, hml, hown, hts⟩ (aX9_chapter l D cI cC cS lo aV vO0 (wAR cI bW 2 vW0) y2 (0 : Int32) (0 : Int32) h13) (cwV 3 hts gL_books_X9_chapter rfl rfl rfl (by decide +kernel) ⟨Nat.le_of_ble_eq_true rfl, Nat.le_of_ble_eq_true rfl⟩) (kpreVA hP hK hN (Nat.le_trans hz hS.1)) rfl rfl hl.1 rfl (lv_room (Nat.le_of_ble_eq_true rfl)) dL_books_288 ⟨Nat.le_of_ble_eq_true rfl, Nat.le_of_ble_eq_true rfl⟩) hS (fun H locs hP hS => ?_)
                  refine lv_iconst (v := (-1 : Int32)) hx hb dL_books_291 (by decide) ?_
                  refine lv_icmp_ne (tgt := 312) hx hb dL_books_292 (by decide) (fun g => ?_) (fun g => ?_)
                  · rw [if_neg g] at h
                    refine lv_iconst (v := (0 : Int32)) hx hb dL_books_312 (by decide) ?_
                    obtain rfl := Option.some.inj h
                    exact W.zret (v := (0 : Int32)) hx hb hr rfl (fun t ht hW => ⟨⟨_, (), rfl, rfl, by dsimp only; rw [ht]; exact hP⟩, hS.F ht⟩) hS.2.2 dL_books_313
                  · rw [if_pos g] at h
                    refine lv_aload_n hx hb dL_books_295 rfl (lv_at hl 0 rfl) ?_
                    refine lv_iload_n hx hb dL_books_296 rfl (lv_at hl 2 rfl) ?_
                    refine lv_aload_n hx hb dL_books_297 rfl (lv_at hl 0 rfl) ?_
                    refine lv_iload_n hx hb dL_books_298 rfl (lv_at hl 2 rfl) ?_
                    obtain ⟨q16, h15, h⟩ := Option.bind_eq_some_iff.mp h
                    refine kciA (va_runV (As := [.int y2]) (rest := [.int y2, .ref aV]) ⟨hx, hb, hml, hown, hts⟩ (aX9_count l D cI cC cS lo aV vO0 (wAR cI bW 2 vW0) y2 h15) (cwV 1 hts gL_books_X9_count rfl rfl rfl (by decide +kernel) ⟨Nat.le_of_ble_eq_true rfl, Nat.le_of_ble_eq_true rfl⟩) (kpreVA hP hK hN (Nat.le_trans hz hS.1)) rfl rfl hl.1 rfl (lv_room (Nat.le_of_ble_eq_true rfl)) dL_books_299 ⟨Nat.le_of_ble_eq_true rfl, Nat.le_of_ble_eq_true rfl⟩) hS (fun H locs hP hS => ?_)
                    refine lv_iconst (v := (1 : Int32)) hx hb dL_books_302 (by decide) ?_
                    refine lv_iadd hx hb dL_books_303 ?_
                    refine lv_iconst (v := (0 : Int32)) hx hb dL_books_304 (by decide) ?_
                    obtain ⟨q18, h17, h⟩ := Option.bind_eq_some_iff.mp h
                    refine kciA (va_runV (As := [.int y2, .int (q16 + (1 : Int32)), .int (0 : Int32)]) (rest := []) ⟨hx, hb, hml, hown, hts⟩ (aX9_chapter l D cI cC cS lo aV vO0 (wAR cI bW 2 vW0) y2 (q16 + (1 : Int32)) (0 : Int32) h17) (cwV 3 hts gL_books_X9_chapter rfl rfl rfl (by decide +kernel) ⟨Nat.le_of_ble_eq_true rfl, Nat.le_of_ble_eq_true rfl⟩) (kpreVA hP hK hN (Nat.le_trans hz hS.1)) rfl rfl hl.1 rfl (lv_room (Nat.le_of_ble_eq_true rfl)) dL_books_305 ⟨Nat.le_of_ble_eq_true rfl, Nat.le_of_ble_eq_true rfl⟩) hS (fun H locs hP hS => ?_)
                    refine lv_iconst (v := (-1 : Int32)) hx hb dL_books_308 (by decide) ?_
                    refine lv_icmp_eq (tgt := 314) hx hb dL_books_309 (by decide) (fun g => ?_) (fun g => ?_)
                    · rw [if_pos g] at h
                      refine lv_iinc (v := (y2 + (1 : Int32))) (lv' := [(2, .int (y2 + (1 : Int32))), (0, .ref aV), (1, .ref bW), (3, .int y3), (4, .int y4)]) hx hb dL_books_314 hl (k := 2) rfl rfl (by decide) rfl (fun ls hl => ?_)
                      refine lv_goto (tgt := 2) hx hb dL_books_317 (by decide) ?_
                      exact ihL2 (y2 + (1 : Int32)) _ _ _ h hP hS (lv_sub hl [1, 2, 0] rfl)
                    · rw [if_neg g] at h
                      refine lv_iconst (v := (0 : Int32)) hx hb dL_books_312 (by decide) ?_
                      obtain rfl := Option.some.inj h
                      exact W.zret (v := (0 : Int32)) hx hb hr rfl (fun t ht hW => ⟨⟨_, (), rfl, rfl, by dsimp only; rw [ht]; exact hP⟩, hS.F ht⟩) hS.2.2 dL_books_313
          · rw [if_neg g] at h
            refine lv_aload_n hx hb dL_books_22 rfl (lv_at hl 0 rfl) ?_
            refine lv_iload_n hx hb dL_books_23 rfl (lv_at hl 2 rfl) ?_
            refine lv_iload hx hb dL_books_24 (lv_at hl 4 rfl) ?_
            refine lv_iconst (v := (1 : Int32)) hx hb dL_books_26 (by decide) ?_
            obtain ⟨q20, h19, h⟩ := Option.bind_eq_some_iff.mp h
            refine kciA (va_runV (As := [.int y2, .int y4, .int (1 : Int32)]) (rest := []) ⟨hx, hb, hml, hown, hts⟩ (aX9_chapter l D cI cC cS lo aV vO0 (wAR cI bW 2 vW0) y2 y4 (1 : Int32) h19) (cwV 3 hts gL_books_X9_chapter rfl rfl rfl (by decide +kernel) ⟨Nat.le_of_ble_eq_true rfl, Nat.le_of_ble_eq_true rfl⟩) (kpreVA hP hK hN (Nat.le_trans hz hS.1)) rfl rfl hl.1 rfl (lv_room (Nat.le_of_ble_eq_true rfl)) dL_books_27 ⟨Nat.le_of_ble_eq_true rfl, Nat.le_of_ble_eq_true rfl⟩) hS (fun H locs hP hS => ?_)
            refine lv_istore (lv' := [(5, .int q20), (0, .ref aV), (1, .ref bW), (2, .int y2), (3, .int y3), (4, .int y4)]) hx hb dL_books_30 hl (by decide) rfl (fun ls hl => ?_)
            refine lv_iconst (v := (0 : Int32)) hx hb dL_books_32 (by decide) ?_
            refine lv_istore (lv' := [(6, .int (0 : Int32)), (5, .int q20), (0, .ref aV), (1, .ref bW), (2, .int y2), (3, .int y3), (4, .int y4)]) hx hb dL_books_33 hl (by decide) rfl (fun ls hl => ?_)
            refine lv_iload hx hb dL_books_35 (lv_at hl 1 rfl) ?_
            refine lv_iconst (v := (1 : Int32)) hx hb dL_books_37 (by decide) ?_
            refine lv_icmp_lt (tgt := 66) hx hb dL_books_38 (by decide) (fun g => ?_) (fun g => ?_)
            · rw [if_pos g] at h
              refine lv_iconst (v := (0 : Int32)) hx hb dL_books_66 (by decide) ?_
              obtain rfl := Option.some.inj h
              exact W.zret (v := (0 : Int32)) hx hb hr rfl (fun t ht hW => ⟨⟨_, (), rfl, rfl, by dsimp only; rw [ht]; exact hP⟩, hS.F ht⟩) hS.2.2 dL_books_67
            · rw [if_neg g] at h
              refine lv_aload_n hx hb dL_books_41 rfl (lv_at hl 2 rfl) ?_
              refine lv_iload_n hx hb dL_books_42 rfl (lv_at hl 4 rfl) ?_
              refine lv_iload hx hb dL_books_43 (lv_at hl 6 rfl) ?_
              refine lv_iconst (v := (0 : Int32)) hx hb dL_books_45 (by decide) ?_
              obtain ⟨q22, h21, h⟩ := Option.bind_eq_some_iff.mp h
              refine kciA (va_runV (As := [.int y2, .int y4, .int (0 : Int32)]) (rest := []) ⟨hx, hb, hml, hown, hts⟩ (aX9_chapter l D cI cC cS lo aV vO0 (wAR cI bW 2 vW0) y2 y4 (0 : Int32) h21) (cwV 3 hts gL_books_X9_chapter rfl rfl rfl (by decide +kernel) ⟨Nat.le_of_ble_eq_true rfl, Nat.le_of_ble_eq_true rfl⟩) (kpreVA hP hK hN (Nat.le_trans hz hS.1)) rfl rfl hl.1 rfl (lv_room (Nat.le_of_ble_eq_true rfl)) dL_books_46 ⟨Nat.le_of_ble_eq_true rfl, Nat.le_of_ble_eq_true rfl⟩) hS (fun H locs hP hS => ?_)
              refine lv_iload_n hx hb dL_books_49 rfl (lv_at hl 5 rfl) ?_
              refine lv_icmp_ne (tgt := 66) hx hb dL_books_50 (by decide) (fun g => ?_) (fun g => ?_)
              · rw [if_neg g] at h
                refine lv_iconst (v := (0 : Int32)) hx hb dL_books_66 (by decide) ?_
                obtain rfl := Option.some.inj h
                exact W.zret (v := (0 : Int32)) hx hb hr rfl (fun t ht hW => ⟨⟨_, (), rfl, rfl, by dsimp only; rw [ht]; exact hP⟩, hS.F ht⟩) hS.2.2 dL_books_67
              · rw [if_pos g] at h
                refine lv_aload_n hx hb dL_books_53 rfl (lv_at hl 2 rfl) ?_
                refine lv_iload_n hx hb dL_books_54 rfl (lv_at hl 4 rfl) ?_
                refine lv_iload hx hb dL_books_55 (lv_at hl 6 rfl) ?_
                refine lv_iconst (v := (3 : Int32)) hx hb dL_books_57 (by decide) ?_
                obtain ⟨q24, h23, h⟩ := Option.bind_eq_some_iff.mp h
                refine kciA (va_runV (As := [.int y2, .int y4, .int (3 : Int32)]) (rest := []) ⟨hx, hb, hml, hown, hts⟩ (aX9_chapter l D cI cC cS lo aV vO0 (wAR cI bW 2 vW0) y2 y4 (3 : Int32) h23) (cwV 3 hts gL_books_X9_chapter rfl rfl rfl (by decide +kernel) ⟨Nat.le_of_ble_eq_true rfl, Nat.le_of_ble_eq_true rfl⟩) (kpreVA hP hK hN (Nat.le_trans hz hS.1)) rfl rfl hl.1 rfl (lv_room (Nat.le_of_ble_eq_true rfl)) dL_books_58 ⟨Nat.le_of_ble_eq_true rfl, Nat.le_of_ble_eq_true rfl⟩) hS (fun H locs hP hS => ?_)
                refine lv_bipush (v := (-2 : Int32)) hx hb dL_books_61 (by decide) ?_
                refine lv_icmp_eq (tgt := 68) hx hb dL_books_63 (by decide) (fun g => ?_) (fun g => ?_)
                · rw [if_pos g] at h
                  refine lv_iconst (v := (0 : Int32)) hx hb dL_books_68 (by decide) ?_
                  refine lv_istore (lv' := [(7, .int (0 : Int32)), (6, .int (0 : Int32)), (5, .int q20), (0, .ref aV), (1, .ref bW), (2, .int y2), (3, .int y3), (4, .int y4)]) hx hb dL_books_69 hl (by decide) rfl (fun ls hl => ?_)
                  exact L71 4000 y2 y3 y4 q20 (0 : Int32) (0 : Int32) _ _ _ h hP hS (lv_sub hl [3, 4, 5, 6, 7, 2, 1, 0] rfl)
                · rw [if_neg g] at h
                  refine lv_iconst (v := (0 : Int32)) hx hb dL_books_66 (by decide) ?_
                  obtain rfl := Option.some.inj h
                  exact W.zret (v := (0 : Int32)) hx hb hr rfl (fun t ht hW => ⟨⟨_, (), rfl, rfl, by dsimp only; rw [ht]; exact hP⟩, hS.F ht⟩) hS.2.2 dL_books_67
      intro y2 H locs ls h hP hS hl
      have h : pL_books_bL2 vO0 vW0 (pL_books_L2 vO0 vW0 nL2) y2 = some q := h
      unfold pL_books_bL2 at h
      refine lv_iload_n hx hb dL_books_2 rfl (lv_at hl 2 rfl) ?_
      refine lv_iconst (v := (2 : Int32)) hx hb dL_books_3 (by decide) ?_
      refine lv_icmp_ge (tgt := 320) hx hb dL_books_4 (by decide) (fun g => ?_) (fun g => ?_)
      · rw [if_pos g] at h
        refine lv_aload_n hx hb dL_books_320 rfl (lv_at hl 0 rfl) ?_
        refine lv_iconst (v := (2 : Int32)) hx hb dL_books_321 (by decide) ?_
        refine lv_iconst (v := (0 : Int32)) hx hb dL_books_322 (by decide) ?_
        refine lv_iconst (v := (0 : Int32)) hx hb dL_books_323 (by decide) ?_
        obtain ⟨q2, h1, h⟩ := Option.bind_eq_some_iff.mp h
        refine kciA (va_runV (As := [.int (2 : Int32), .int (0 : Int32), .int (0 : Int32)]) (rest := []) ⟨hx, hb, hml, hown, hts⟩ (aX9_verse l D cI cC cS lo aV vO0 (wAR cI bW 2 vW0) (2 : Int32) (0 : Int32) (0 : Int32) h1) (cwV 3 hts gL_books_X9_verse rfl rfl rfl (by decide +kernel) ⟨Nat.le_of_ble_eq_true rfl, Nat.le_of_ble_eq_true rfl⟩) (kpreVA hP hK hN (Nat.le_trans hz hS.1)) rfl rfl hl.1 rfl (lv_room (Nat.le_of_ble_eq_true rfl)) dL_books_324 ⟨Nat.le_of_ble_eq_true rfl, Nat.le_of_ble_eq_true rfl⟩) hS (fun H locs hP hS => ?_)
        refine lv_iconst (v := (-1 : Int32)) hx hb dL_books_327 (by decide) ?_
        refine lv_icmp_ne (tgt := 356) hx hb dL_books_328 (by decide) (fun g => ?_) (fun g => ?_)
        · rw [if_neg g] at h
          refine lv_iconst (v := (0 : Int32)) hx hb dL_books_356 (by decide) ?_
          obtain rfl := Option.some.inj h
          exact W.zret (v := (0 : Int32)) hx hb hr rfl (fun t ht hW => ⟨⟨_, (), rfl, rfl, by dsimp only; rw [ht]; exact hP⟩, hS.F ht⟩) hS.2.2 dL_books_357
        · rw [if_pos g] at h
          refine lv_aload_n hx hb dL_books_331 rfl (lv_at hl 0 rfl) ?_
          refine lv_bipush (v := (12 : Int32)) hx hb dL_books_332 (by decide) ?_
          obtain ⟨q4, h3, h⟩ := Option.bind_eq_some_iff.mp h
          refine kciA (va_runV (As := [.int (12 : Int32)]) (rest := []) ⟨hx, hb, hml, hown, hts⟩ (aX9_count l D cI cC cS lo aV vO0 (wAR cI bW 2 vW0) (12 : Int32) h3) (cwV 1 hts gL_books_X9_count rfl rfl rfl (by decide +kernel) ⟨Nat.le_of_ble_eq_true rfl, Nat.le_of_ble_eq_true rfl⟩) (kpreVA hP hK hN (Nat.le_trans hz hS.1)) rfl rfl hl.1 rfl (lv_room (Nat.le_of_ble_eq_true rfl)) dL_books_334 ⟨Nat.le_of_ble_eq_true rfl, Nat.le_of_ble_eq_true rfl⟩) hS (fun H locs hP hS => ?_)
          refine lv_bipush (v := (-2 : Int32)) hx hb dL_books_337 (by decide) ?_
          refine lv_icmp_ne (tgt := 356) hx hb dL_books_339 (by decide) (fun g => ?_) (fun g => ?_)
          · rw [if_neg g] at h
            refine lv_iconst (v := (0 : Int32)) hx hb dL_books_356 (by decide) ?_
            obtain rfl := Option.some.inj h
            exact W.zret (v := (0 : Int32)) hx hb hr rfl (fun t ht hW => ⟨⟨_, (), rfl, rfl, by dsimp only; rw [ht]; exact hP⟩, hS.F ht⟩) hS.2.2 dL_books_357
          · rw [if_pos g] at h
            refine lv_aload_n hx hb dL_books_342 rfl (lv_at hl 0 rfl) ?_
            refine lv_iconst (v := (-1 : Int32)) hx hb dL_books_343 (by decide) ?_
            obtain ⟨q6, h5, h⟩ := Option.bind_eq_some_iff.mp h
            refine kciA (va_runV (As := [.int (-1 : Int32)]) (rest := []) ⟨hx, hb, hml, hown, hts⟩ (aX9_count l D cI cC cS lo aV vO0 (wAR cI bW 2 vW0) (-1 : Int32) h5) (cwV 1 hts gL_books_X9_count rfl rfl rfl (by decide +kernel) ⟨Nat.le_of_ble_eq_true rfl, Nat.le_of_ble_eq_true rfl⟩) (kpreVA hP hK hN (Nat.le_trans hz hS.1)) rfl rfl hl.1 rfl (lv_room (Nat.le_of_ble_eq_true rfl)) dL_books_344 ⟨Nat.le_of_ble_eq_true rfl, Nat.le_of_ble_eq_true rfl⟩) hS (fun H locs hP hS => ?_)
            refine lv_bipush (v := (-2 : Int32)) hx hb dL_books_347 (by decide) ?_
            refine lv_icmp_ne (tgt := 356) hx hb dL_books_349 (by decide) (fun g => ?_) (fun g => ?_)
            · rw [if_neg g] at h
              refine lv_iconst (v := (0 : Int32)) hx hb dL_books_356 (by decide) ?_
              obtain rfl := Option.some.inj h
              exact W.zret (v := (0 : Int32)) hx hb hr rfl (fun t ht hW => ⟨⟨_, (), rfl, rfl, by dsimp only; rw [ht]; exact hP⟩, hS.F ht⟩) hS.2.2 dL_books_357
            · rw [if_pos g] at h
              refine lv_iconst (v := (1 : Int32)) hx hb dL_books_352 (by decide) ?_
              refine lv_goto (tgt := 357) hx hb dL_books_353 (by decide) ?_
              obtain rfl := Option.some.inj h
              exact W.zret (v := (1 : Int32)) hx hb hr rfl (fun t ht hW => ⟨⟨_, (), rfl, rfl, by dsimp only; rw [ht]; exact hP⟩, hS.F ht⟩) hS.2.2 dL_books_357
      · rw [if_neg g] at h
        refine lv_iconst (v := (0 : Int32)) hx hb dL_books_7 (by decide) ?_
        refine lv_istore_n (lv' := [(3, .int (0 : Int32)), (0, .ref aV), (1, .ref bW), (2, .int y2)]) hx hb dL_books_8 rfl hl (by decide) rfl (fun ls hl => ?_)
        refine lv_iconst (v := (1 : Int32)) hx hb dL_books_9 (by decide) ?_
        refine lv_istore (lv' := [(4, .int (1 : Int32)), (3, .int (0 : Int32)), (0, .ref aV), (1, .ref bW), (2, .int y2)]) hx hb dL_books_10 hl (by decide) rfl (fun ls hl => ?_)
        exact L12 4000 y2 (0 : Int32) (1 : Int32) _ _ _ h hP hS (lv_sub hl [2, 3, 4, 1, 0] rfl)
  unfold pL_books at h
  refine lv_iconst (v := (0 : Int32)) hx hb dL_books_0 (by decide) ?_
  refine lv_istore_n (lv' := [(2, .int (0 : Int32)), (0, .ref aV), (1, .ref bW)]) hx hb dL_books_1 rfl hl (by decide) rfl (fun ls hl => ?_)
  exact L2 4000 (0 : Int32) _ _ _ h hP hS (lv_sub hl [1, 2, 0] rfl)
set_option maxHeartbeats 8000000 in
set_option maxRecDepth 100000 in
theorem kL_need (l : Launch) (D : va_G) (cI cC cS : ClassId) (lo aV : Nat) (vO0 : Sg) (X : va_W) (i2 : Int32) (i3 : Int32) (i4 : Int32) (i5 : Int32) {q : Int32} (h : pL_need vO0 i2 i3 i4 i5 = some q) : kAc l yL_need wsL_need ({ frames := 4, cells := 0, slots := 0, locals := 88 } : Room) D (kTy cI cC cS) lo [.ref aV, .int i2, .int i3, .int i4, .int i5] (aW D cI cC cS lo aV vO0 X) (aW D cI cC cS lo aV vO0 X) q 0 0 := by
  refine Met.ofW (cc := cL_need) (maxL := 7) (ret := (some .int)) (by decide) rfl ?_
  intro p e s m args below meth c s₁ B hml hv
  obtain ⟨rfl, hP, hK, hN, hz⟩ := hv
  have hx := B.exec
  have hb := B.bytes
  have hr := B.returns
  have hts := atoms_spec (ws := wsL_need) B.pre
  have hown : s.vm.findClass RL = some m.cls := findClass_of_methodNamed B.named
  have hlocks := B.notSynchronized
  have hS : va_S (fun q => lo ≤ q) s.heap s.heap [] := va_S.rf
  have hl := lv_entry ([.ref aV, .int i2, .int i3, .int i4, .int i5]) (n := 7) (Nat.le_of_ble_eq_true rfl)
  rw [lg_entry_eq]
  generalize (lg_sl ([.ref aV, .int i2, .int i3, .int i4, .int i5]) ++ List.replicate (7 - (lg_sl ([.ref aV, .int i2, .int i3, .int i4, .int i5])).length) Slot.unset).toArray = ls at hl ⊢
  have hl : lv_has ls 7 [(0, .ref aV), (1, .int i2), (2, .int i3), (3, .int i4), (4, .int i5)] := hl
  have L6 : ∀ (nL6 : Nat) (y1 : Int32) (y2 : Int32) (y3 : Int32) (y4 : Int32) (y5 : Int32) (y6 : Int32) (H : Heap) (locs : List Loc) (ls : Array Slot), pL_need_L6 vO0 nL6 y1 y2 y3 y4 y5 y6 = some q → (aW D cI cC cS lo aV vO0 X) H → va_S (fun q => lo ≤ q) s.heap H locs → lv_has ls 7 [(0, .ref aV), (1, .int y1), (2, .int y2), (3, .int y3), (4, .int y4), (5, .int y5), (6, .int y6)] → W p l e ({ frames := 4, cells := 0, slots := 0, locals := 88 } : Room) s m ([.ref aV, .int i2, .int i3, .int i4, .int i5] : List Value).toArray below meth c H locs 0 0 (MQ below (va_Qi (fun (r : Int32) (_ : Unit) => r = q) (fun _ t => (aW D cI cC cS lo aV vO0 X) t.heap) (fun q => lo ≤ q)) ([.ref aV, .int i2, .int i3, .int i4, .int i5] : List Value).toArray s 0 0 (fun q => lo ≤ q)) (F0 m 6 ls []) := by
    clear h hP hS hl
    intro nL6
    induction nL6 with
    | zero => intro y1 y2 y3 y4 y5 y6 H locs ls h; have h : (none : Option (Int32)) = some q := h; cases h
    | succ nL6 ihL6 =>
      have j42 : ∀ (y1 : Int32) (y2 : Int32) (y3 : Int32) (y4 : Int32) (y6 : Int32) (t0 : Int32) (t1 : Int32) (t2 : Int32) (H : Heap) (locs : List Loc) (ls : Array Slot), pL_need_j42 vO0 (pL_need_L6 vO0 nL6) y1 y2 y3 y4 y6 t0 t1 t2 = some q → (aW D cI cC cS lo aV vO0 X) H → va_S (fun q => lo ≤ q) s.heap H locs → lv_has ls 7 [(0, .ref aV), (1, .int y1), (2, .int y2), (3, .int y3), (4, .int y4), (6, .int y6)] → W p l e ({ frames := 4, cells := 0, slots := 0, locals := 88 } : Room) s m ([.ref aV, .int i2, .int i3, .int i4, .int i5] : List Value).toArray below meth c H locs 0 0 (MQ below (va_Qi (fun (r : Int32) (_ : Unit) => r = q) (fun _ t => (aW D cI cC cS lo aV vO0 X) t.heap) (fun q => lo ≤ q)) ([.ref aV, .int i2, .int i3, .int i4, .int i5] : List Value).toArray s 0 0 (fun q => lo ≤ q)) (F0 m 42 ls [.int t2, .int t1, .int t0]) := by
        skip
        intro y1 y2 y3 y4 y6 t0 t1 t2 H locs ls h hP hS hl
        unfold pL_need_j42 at h
        refine lv_iadd hx hb dL_need_42 ?_
        refine lv_iadd hx hb dL_need_43 ?_
        refine lv_istore (lv' := [(5, .int (t0 + (t1 + t2))), (0, .ref aV), (1, .int y1), (2, .int y2), (3, .int y3), (4, .int y4), (6, .int y6)]) hx hb dL_need_44 hl (by decide) rfl (fun ls hl => ?_)
        refine lv_iinc (v := (y6 + (1 : Int32))) (lv' := [(6, .int (y6 + (1 : Int32))), (5, .int (t0 + (t1 + t2))), (0, .ref aV), (1, .int y1), (2, .int y2), (3, .int y3), (4, .int y4)]) hx hb dL_need_46 hl (k := 6) rfl rfl (by decide) rfl (fun ls hl => ?_)
        refine lv_goto (tgt := 6) hx hb dL_need_49 (by decide) ?_
        exact ihL6 y1 y2 y3 y4 (t0 + (t1 + t2)) (y6 + (1 : Int32)) _ _ _ h hP hS (lv_sub hl [2, 3, 4, 5, 6, 1, 0] rfl)
      intro y1 y2 y3 y4 y5 y6 H locs ls h hP hS hl
      have h : pL_need_bL6 vO0 (pL_need_L6 vO0 nL6) y1 y2 y3 y4 y5 y6 = some q := h
      unfold pL_need_bL6 at h
      refine lv_iload hx hb dL_need_6 (lv_at hl 6 rfl) ?_
      refine lv_iload_n hx hb dL_need_8 rfl (lv_at hl 2 rfl) ?_
      refine lv_iload_n hx hb dL_need_9 rfl (lv_at hl 3 rfl) ?_
      refine lv_iadd hx hb dL_need_10 ?_
      refine lv_icmp_ge (tgt := 52) hx hb dL_need_11 (by decide) (fun g => ?_) (fun g => ?_)
      · rw [if_pos g] at h
        refine lv_iload hx hb dL_need_52 (lv_at hl 5 rfl) ?_
        obtain rfl := Option.some.inj h
        exact W.iret (v := y5) hx hb hr (fun t ht hW => ⟨⟨_, (), rfl, rfl, by dsimp only; rw [ht]; exact hP⟩, hS.F ht⟩) hS.2.2 dL_need_54
      · rw [if_neg g] at h
        refine lv_iload hx hb dL_need_14 (lv_at hl 5 rfl) ?_
        refine lv_aload_n hx hb dL_need_16 rfl (lv_at hl 0 rfl) ?_
        refine lv_iload_n hx hb dL_need_17 rfl (lv_at hl 1 rfl) ?_
        refine lv_iload hx hb dL_need_18 (lv_at hl 6 rfl) ?_
        refine lv_iconst (v := (4 : Int32)) hx hb dL_need_20 (by decide) ?_
        obtain ⟨q2, h1, h⟩ := Option.bind_eq_some_iff.mp h
        refine kciA (va_runV (As := [.int y1, .int y6, .int (4 : Int32)]) (rest := [.int y5]) ⟨hx, hb, hml, hown, hts⟩ (aX9_verse l D cI cC cS lo aV vO0 (X) y1 y6 (4 : Int32) h1) (cwV 3 hts gL_need_X9_verse rfl rfl rfl (by decide +kernel) ⟨Nat.le_of_ble_eq_true rfl, Nat.le_of_ble_eq_true rfl⟩) (kpreVA hP hK hN (Nat.le_trans hz hS.1)) rfl rfl hl.1 rfl (lv_room (Nat.le_of_ble_eq_true rfl)) dL_need_21 ⟨Nat.le_of_ble_eq_true rfl, Nat.le_of_ble_eq_true rfl⟩) hS (fun H locs hP hS => ?_)
        refine lv_aload_n hx hb dL_need_24 rfl (lv_at hl 0 rfl) ?_
        refine lv_iload_n hx hb dL_need_25 rfl (lv_at hl 1 rfl) ?_
        refine lv_iload hx hb dL_need_26 (lv_at hl 6 rfl) ?_
        refine lv_iconst (v := (1 : Int32)) hx hb dL_need_28 (by decide) ?_
        obtain ⟨q4, h3, h⟩ := Option.bind_eq_some_iff.mp h
        refine kciA (va_runV (As := [.int y1, .int y6, .int (1 : Int32)]) (rest := [.int q2, .int y5]) ⟨hx, hb, hml, hown, hts⟩ (aX9_verse l D cI cC cS lo aV vO0 (X) y1 y6 (1 : Int32) h3) (cwV 3 hts gL_need_X9_verse rfl rfl rfl (by decide +kernel) ⟨Nat.le_of_ble_eq_true rfl, Nat.le_of_ble_eq_true rfl⟩) (kpreVA hP hK hN (Nat.le_trans hz hS.1)) rfl rfl hl.1 rfl (lv_room (Nat.le_of_ble_eq_true rfl)) dL_need_29 ⟨Nat.le_of_ble_eq_true rfl, Nat.le_of_ble_eq_true rfl⟩) hS (fun H locs hP hS => ?_)
        refine lv_iconst (v := (1 : Int32)) hx hb dL_need_32 (by decide) ?_
        refine lv_icmp_ne (tgt := 41) hx hb dL_need_33 (by decide) (fun g => ?_) (fun g => ?_)
        · rw [if_neg g] at h
          refine lv_iconst (v := (0 : Int32)) hx hb dL_need_41 (by decide) ?_
          exact j42 y1 y2 y3 y4 y6 y5 q2 (0 : Int32) _ _ _ h hP hS (lv_sub hl [0, 1, 2, 3, 4, 6] rfl)
        · rw [if_pos g] at h
          refine lv_iload hx hb dL_need_36 (lv_at hl 4 rfl) ?_
          refine lv_goto (tgt := 42) hx hb dL_need_38 (by decide) ?_
          exact j42 y1 y2 y3 y4 y6 y5 q2 y4 _ _ _ h hP hS (lv_sub hl [0, 1, 2, 3, 4, 6] rfl)
  unfold pL_need at h
  refine lv_iconst (v := (0 : Int32)) hx hb dL_need_0 (by decide) ?_
  refine lv_istore (lv' := [(5, .int (0 : Int32)), (0, .ref aV), (1, .int i2), (2, .int i3), (3, .int i4), (4, .int i5)]) hx hb dL_need_1 hl (by decide) rfl (fun ls hl => ?_)
  refine lv_iload_n hx hb dL_need_3 rfl (lv_at hl 3 rfl) ?_
  refine lv_istore (lv' := [(6, .int i3), (5, .int (0 : Int32)), (0, .ref aV), (1, .int i2), (2, .int i3), (3, .int i4), (4, .int i5)]) hx hb dL_need_4 hl (by decide) rfl (fun ls hl => ?_)
  exact L6 4000 i2 i3 i4 i5 (0 : Int32) i3 _ _ _ h hP hS (lv_sub hl [2, 3, 4, 5, 6, 1, 0] rfl)
