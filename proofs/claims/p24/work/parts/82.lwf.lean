-- walks of the law's helpers (printed by wip/p24/gen/g3.py)
set_option maxHeartbeats 8000000 in
set_option maxRecDepth 100000 in
theorem kL_splits (l : Launch) (D : va_G) (cI cC cS : ClassId) (lo aV : Nat) (vO0 : Sg) (X : va_W) (i2 : Int32) (i3 : Int32) (i4 : Int32) {q : Int32 × Sg} (h : pL_splits vO0 i2 i3 i4 = some q) : kAc l yL_splits wsL_splits ({ frames := 7, cells := 0, slots := 0, locals := 164 } : Room) D (kTy cI cC cS) lo [.ref aV, .int i2, .int i3, .int i4] (aW D cI cC cS lo aV vO0 X) (aW D cI cC cS lo aV q.2 X) q.1 0 0 := by
  refine Met.ofW (cc := cL_splits) (maxL := 10) (ret := (some .boolean)) (by decide) rfl ?_
  intro p e s m args below meth c s₁ B hml hv
  obtain ⟨rfl, hP, hK, hN, hz⟩ := hv
  have hx := B.exec
  have hb := B.bytes
  have hr := B.returns
  have hts := atoms_spec (ws := wsL_splits) B.pre
  have hown : s.vm.findClass RL = some m.cls := findClass_of_methodNamed B.named
  have hlocks := B.notSynchronized
  have hS : va_S (fun q => lo ≤ q) s.heap s.heap [] := va_S.rf
  have hl := lv_entry ([.ref aV, .int i2, .int i3, .int i4]) (n := 10) (Nat.le_of_ble_eq_true rfl)
  rw [lg_entry_eq]
  generalize (lg_sl ([.ref aV, .int i2, .int i3, .int i4]) ++ List.replicate (10 - (lg_sl ([.ref aV, .int i2, .int i3, .int i4])).length) Slot.unset).toArray = ls at hl ⊢
  have hl : lv_has ls 10 [(0, .ref aV), (1, .int i2), (2, .int i3), (3, .int i4)] := hl
  have j72 : ∀ (c0_0 : Sg) (y1 : Int32) (y2 : Int32) (y3 : Int32) (y5 : Int32) (y6 : Int32) (y7 : Int32) (y8 : Int32) (t0 : Int32) (H : Heap) (locs : List Loc) (ls : Array Slot), pL_splits_j72  c0_0 y1 y2 y3 y5 y6 y7 y8 t0 = some q → (aW D cI cC cS lo aV c0_0 X) H → va_S (fun q => lo ≤ q) s.heap H locs → lv_has ls 10 [(0, .ref aV), (1, .int y1), (2, .int y2), (3, .int y3), (5, .int y5), (6, .int y6), (7, .int y7), (8, .int y8)] → W p l e ({ frames := 7, cells := 0, slots := 0, locals := 164 } : Room) s m ([.ref aV, .int i2, .int i3, .int i4] : List Value).toArray below meth c H locs 0 0 (MQ below (va_Qi (fun (r : Int32) (_ : Unit) => r = q.1) (fun _ t => (aW D cI cC cS lo aV q.2 X) t.heap) (fun q => lo ≤ q)) ([.ref aV, .int i2, .int i3, .int i4] : List Value).toArray s 0 0 (fun q => lo ≤ q)) (F0 m 72 ls [.int t0]) := by
    clear h hP hS hl
    intro c0_0 y1 y2 y3 y5 y6 y7 y8 t0 H locs ls h hP hS hl
    unfold pL_splits_j72 at h
    refine lv_istore (lv' := [(9, .int t0), (0, .ref aV), (1, .int y1), (2, .int y2), (3, .int y3), (5, .int y5), (6, .int y6), (7, .int y7), (8, .int y8)]) hx hb dL_splits_72 hl (by decide) rfl (fun ls hl => ?_)
    refine lv_aload_n hx hb dL_splits_74 rfl (lv_at hl 1 rfl) ?_
    refine lv_iload_n hx hb dL_splits_75 rfl (lv_at hl 2 rfl) ?_
    refine lv_iload_n hx hb dL_splits_76 rfl (lv_at hl 3 rfl) ?_
    refine lv_iload_n hx hb dL_splits_77 rfl (lv_at hl 4 rfl) ?_
    obtain ⟨q12, h11, h⟩ := Option.bind_eq_some_iff.mp h
    refine kciA (va_runV (As := [.int y1, .int y2, .int y3]) (rest := []) ⟨hx, hb, hml, hown, hts⟩ (aX9_splitVerse l D cI cC cS lo aV c0_0 (X) y1 y2 y3 h11) (cwV 3 hts gL_splits_X9_splitVerse rfl rfl rfl (by decide +kernel) ⟨Nat.le_of_ble_eq_true rfl, Nat.le_of_ble_eq_true rfl⟩) (kpreVA hP hK hN (Nat.le_trans hz hS.1)) rfl rfl hl.1 rfl (lv_room (Nat.le_of_ble_eq_true rfl)) dL_splits_78 ⟨Nat.le_of_ble_eq_true rfl, Nat.le_of_ble_eq_true rfl⟩) hS (fun H locs hP hS => ?_)
    refine lv_iload hx hb dL_splits_81 (lv_at hl 0 rfl) ?_
    refine lv_icmp_ne (tgt := 112) hx hb dL_splits_83 (by decide) (fun g => ?_) (fun g => ?_)
    · rw [if_neg g] at h
      refine lv_iconst (v := (0 : Int32)) hx hb dL_splits_112 (by decide) ?_
      obtain rfl := Option.some.inj h
      exact W.zret (v := (0 : Int32)) hx hb hr rfl (fun t ht hW => ⟨⟨_, (), rfl, rfl, by dsimp only; rw [ht]; exact hP⟩, hS.F ht⟩) hS.2.2 dL_splits_113
    · rw [if_pos g] at h
      refine lv_aload_n hx hb dL_splits_86 rfl (lv_at hl 1 rfl) ?_
      refine lv_iload_n hx hb dL_splits_87 rfl (lv_at hl 2 rfl) ?_
      refine lv_iload_n hx hb dL_splits_88 rfl (lv_at hl 3 rfl) ?_
      refine lv_sipush (v := (2000 : Int32)) hx hb dL_splits_89 (by decide) ?_
      obtain ⟨q14, h13, h⟩ := Option.bind_eq_some_iff.mp h
      refine kciA (va_runV (As := [.int y1, .int y2, .int (2000 : Int32)]) (rest := []) ⟨hx, hb, hml, hown, hts⟩ (aX9_splitVerse l D cI cC cS lo aV q12.2 (X) y1 y2 (2000 : Int32) h13) (cwV 3 hts gL_splits_X9_splitVerse rfl rfl rfl (by decide +kernel) ⟨Nat.le_of_ble_eq_true rfl, Nat.le_of_ble_eq_true rfl⟩) (kpreVA hP hK hN (Nat.le_trans hz hS.1)) rfl rfl hl.1 rfl (lv_room (Nat.le_of_ble_eq_true rfl)) dL_splits_92 ⟨Nat.le_of_ble_eq_true rfl, Nat.le_of_ble_eq_true rfl⟩) hS (fun H locs hP hS => ?_)
      refine lv_bipush (v := (-2 : Int32)) hx hb dL_splits_95 (by decide) ?_
      refine lv_icmp_ne (tgt := 112) hx hb dL_splits_97 (by decide) (fun g => ?_) (fun g => ?_)
      · rw [if_neg g] at h
        refine lv_iconst (v := (0 : Int32)) hx hb dL_splits_112 (by decide) ?_
        obtain rfl := Option.some.inj h
        exact W.zret (v := (0 : Int32)) hx hb hr rfl (fun t ht hW => ⟨⟨_, (), rfl, rfl, by dsimp only; rw [ht]; exact hP⟩, hS.F ht⟩) hS.2.2 dL_splits_113
      · rw [if_pos g] at h
        refine lv_aload_n hx hb dL_splits_100 rfl (lv_at hl 1 rfl) ?_
        refine lv_iload_n hx hb dL_splits_101 rfl (lv_at hl 2 rfl) ?_
        refine lv_iload_n hx hb dL_splits_102 rfl (lv_at hl 3 rfl) ?_
        refine lv_iconst (v := (0 : Int32)) hx hb dL_splits_103 (by decide) ?_
        obtain ⟨q16, h15, h⟩ := Option.bind_eq_some_iff.mp h
        refine kciA (va_runV (As := [.int y1, .int y2, .int (0 : Int32)]) (rest := []) ⟨hx, hb, hml, hown, hts⟩ (aX9_splitVerse l D cI cC cS lo aV q14.2 (X) y1 y2 (0 : Int32) h15) (cwV 3 hts gL_splits_X9_splitVerse rfl rfl rfl (by decide +kernel) ⟨Nat.le_of_ble_eq_true rfl, Nat.le_of_ble_eq_true rfl⟩) (kpreVA hP hK hN (Nat.le_trans hz hS.1)) rfl rfl hl.1 rfl (lv_room (Nat.le_of_ble_eq_true rfl)) dL_splits_104 ⟨Nat.le_of_ble_eq_true rfl, Nat.le_of_ble_eq_true rfl⟩) hS (fun H locs hP hS => ?_)
        refine lv_bipush (v := (-2 : Int32)) hx hb dL_splits_107 (by decide) ?_
        refine lv_icmp_eq (tgt := 114) hx hb dL_splits_109 (by decide) (fun g => ?_) (fun g => ?_)
        · rw [if_pos g] at h
          refine lv_iload hx hb dL_splits_114 (lv_at hl 0 rfl) ?_
          refine lv_if_lt (tgt := 198) hx hb dL_splits_116 (by decide) (fun g => ?_) (fun g => ?_)
          · rw [if_pos g] at h
            refine lv_iconst (v := (1 : Int32)) hx hb dL_splits_198 (by decide) ?_
            refine lv_goto (tgt := 203) hx hb dL_splits_199 (by decide) ?_
            obtain rfl := Option.some.inj h
            exact W.zret (v := (1 : Int32)) hx hb hr rfl (fun t ht hW => ⟨⟨_, (), rfl, rfl, by dsimp only; rw [ht]; exact hP⟩, hS.F ht⟩) hS.2.2 dL_splits_203
          · rw [if_neg g] at h
            refine lv_aload_n hx hb dL_splits_119 rfl (lv_at hl 1 rfl) ?_
            refine lv_iload_n hx hb dL_splits_120 rfl (lv_at hl 2 rfl) ?_
            refine lv_iload_n hx hb dL_splits_121 rfl (lv_at hl 3 rfl) ?_
            refine lv_iconst (v := (2 : Int32)) hx hb dL_splits_122 (by decide) ?_
            obtain ⟨q18, h17, h⟩ := Option.bind_eq_some_iff.mp h
            refine kciA (va_runV (As := [.int y1, .int y2, .int (2 : Int32)]) (rest := []) ⟨hx, hb, hml, hown, hts⟩ (aX9_verse l D cI cC cS lo aV q16.2 (X) y1 y2 (2 : Int32) h17) (cwV 3 hts gL_splits_X9_verse rfl rfl rfl (by decide +kernel) ⟨Nat.le_of_ble_eq_true rfl, Nat.le_of_ble_eq_true rfl⟩) (kpreVA hP hK hN (Nat.le_trans hz hS.1)) rfl rfl hl.1 rfl (lv_room (Nat.le_of_ble_eq_true rfl)) dL_splits_123 ⟨Nat.le_of_ble_eq_true rfl, Nat.le_of_ble_eq_true rfl⟩) hS (fun H locs hP hS => ?_)
            refine lv_iload_n hx hb dL_splits_126 rfl (lv_at hl 4 rfl) ?_
            refine lv_icmp_ne (tgt := 202) hx hb dL_splits_127 (by decide) (fun g => ?_) (fun g => ?_)
            · rw [if_neg g] at h
              refine lv_iconst (v := (0 : Int32)) hx hb dL_splits_202 (by decide) ?_
              obtain rfl := Option.some.inj h
              exact W.zret (v := (0 : Int32)) hx hb hr rfl (fun t ht hW => ⟨⟨_, (), rfl, rfl, by dsimp only; rw [ht]; exact hP⟩, hS.F ht⟩) hS.2.2 dL_splits_203
            · rw [if_pos g] at h
              refine lv_aload_n hx hb dL_splits_130 rfl (lv_at hl 1 rfl) ?_
              refine lv_iload_n hx hb dL_splits_131 rfl (lv_at hl 2 rfl) ?_
              refine lv_iload_n hx hb dL_splits_132 rfl (lv_at hl 3 rfl) ?_
              refine lv_iconst (v := (1 : Int32)) hx hb dL_splits_133 (by decide) ?_
              refine lv_iadd hx hb dL_splits_134 ?_
              refine lv_iconst (v := (2 : Int32)) hx hb dL_splits_135 (by decide) ?_
              obtain ⟨q20, h19, h⟩ := Option.bind_eq_some_iff.mp h
              refine kciA (va_runV (As := [.int y1, .int (y2 + (1 : Int32)), .int (2 : Int32)]) (rest := []) ⟨hx, hb, hml, hown, hts⟩ (aX9_verse l D cI cC cS lo aV q16.2 (X) y1 (y2 + (1 : Int32)) (2 : Int32) h19) (cwV 3 hts gL_splits_X9_verse rfl rfl rfl (by decide +kernel) ⟨Nat.le_of_ble_eq_true rfl, Nat.le_of_ble_eq_true rfl⟩) (kpreVA hP hK hN (Nat.le_trans hz hS.1)) rfl rfl hl.1 rfl (lv_room (Nat.le_of_ble_eq_true rfl)) dL_splits_136 ⟨Nat.le_of_ble_eq_true rfl, Nat.le_of_ble_eq_true rfl⟩) hS (fun H locs hP hS => ?_)
              refine lv_iload hx hb dL_splits_139 (lv_at hl 5 rfl) ?_
              refine lv_iload_n hx hb dL_splits_141 rfl (lv_at hl 4 rfl) ?_
              refine lv_isub hx hb dL_splits_142 ?_
              refine lv_icmp_ne (tgt := 202) hx hb dL_splits_143 (by decide) (fun g => ?_) (fun g => ?_)
              · rw [if_neg g] at h
                refine lv_iconst (v := (0 : Int32)) hx hb dL_splits_202 (by decide) ?_
                obtain rfl := Option.some.inj h
                exact W.zret (v := (0 : Int32)) hx hb hr rfl (fun t ht hW => ⟨⟨_, (), rfl, rfl, by dsimp only; rw [ht]; exact hP⟩, hS.F ht⟩) hS.2.2 dL_splits_203
              · rw [if_pos g] at h
                refine lv_aload_n hx hb dL_splits_146 rfl (lv_at hl 1 rfl) ?_
                refine lv_iload_n hx hb dL_splits_147 rfl (lv_at hl 2 rfl) ?_
                refine lv_iload_n hx hb dL_splits_148 rfl (lv_at hl 3 rfl) ?_
                refine lv_iconst (v := (3 : Int32)) hx hb dL_splits_149 (by decide) ?_
                obtain ⟨q22, h21, h⟩ := Option.bind_eq_some_iff.mp h
                refine kciA (va_runV (As := [.int y1, .int y2, .int (3 : Int32)]) (rest := []) ⟨hx, hb, hml, hown, hts⟩ (aX9_verse l D cI cC cS lo aV q16.2 (X) y1 y2 (3 : Int32) h21) (cwV 3 hts gL_splits_X9_verse rfl rfl rfl (by decide +kernel) ⟨Nat.le_of_ble_eq_true rfl, Nat.le_of_ble_eq_true rfl⟩) (kpreVA hP hK hN (Nat.le_trans hz hS.1)) rfl rfl hl.1 rfl (lv_room (Nat.le_of_ble_eq_true rfl)) dL_splits_150 ⟨Nat.le_of_ble_eq_true rfl, Nat.le_of_ble_eq_true rfl⟩) hS (fun H locs hP hS => ?_)
                refine lv_iload hx hb dL_splits_153 (lv_at hl 6 rfl) ?_
                refine lv_icmp_ne (tgt := 202) hx hb dL_splits_155 (by decide) (fun g => ?_) (fun g => ?_)
                · rw [if_neg g] at h
                  refine lv_iconst (v := (0 : Int32)) hx hb dL_splits_202 (by decide) ?_
                  obtain rfl := Option.some.inj h
                  exact W.zret (v := (0 : Int32)) hx hb hr rfl (fun t ht hW => ⟨⟨_, (), rfl, rfl, by dsimp only; rw [ht]; exact hP⟩, hS.F ht⟩) hS.2.2 dL_splits_203
                · rw [if_pos g] at h
                  refine lv_aload_n hx hb dL_splits_158 rfl (lv_at hl 1 rfl) ?_
                  refine lv_iload_n hx hb dL_splits_159 rfl (lv_at hl 2 rfl) ?_
                  refine lv_iload_n hx hb dL_splits_160 rfl (lv_at hl 3 rfl) ?_
                  refine lv_iconst (v := (1 : Int32)) hx hb dL_splits_161 (by decide) ?_
                  refine lv_iadd hx hb dL_splits_162 ?_
                  refine lv_iconst (v := (3 : Int32)) hx hb dL_splits_163 (by decide) ?_
                  obtain ⟨q24, h23, h⟩ := Option.bind_eq_some_iff.mp h
                  refine kciA (va_runV (As := [.int y1, .int (y2 + (1 : Int32)), .int (3 : Int32)]) (rest := []) ⟨hx, hb, hml, hown, hts⟩ (aX9_verse l D cI cC cS lo aV q16.2 (X) y1 (y2 + (1 : Int32)) (3 : Int32) h23) (cwV 3 hts gL_splits_X9_verse rfl rfl rfl (by decide +kernel) ⟨Nat.le_of_ble_eq_true rfl, Nat.le_of_ble_eq_true rfl⟩) (kpreVA hP hK hN (Nat.le_trans hz hS.1)) rfl rfl hl.1 rfl (lv_room (Nat.le_of_ble_eq_true rfl)) dL_splits_164 ⟨Nat.le_of_ble_eq_true rfl, Nat.le_of_ble_eq_true rfl⟩) hS (fun H locs hP hS => ?_)
                  refine lv_if_ne (tgt := 202) hx hb dL_splits_167 (by decide) (fun g => ?_) (fun g => ?_)
                  · rw [if_neg g] at h
                    refine lv_iconst (v := (0 : Int32)) hx hb dL_splits_202 (by decide) ?_
                    obtain rfl := Option.some.inj h
                    exact W.zret (v := (0 : Int32)) hx hb hr rfl (fun t ht hW => ⟨⟨_, (), rfl, rfl, by dsimp only; rw [ht]; exact hP⟩, hS.F ht⟩) hS.2.2 dL_splits_203
                  · rw [if_pos g] at h
                    refine lv_aload_n hx hb dL_splits_170 rfl (lv_at hl 1 rfl) ?_
                    refine lv_iload_n hx hb dL_splits_171 rfl (lv_at hl 2 rfl) ?_
                    refine lv_iload_n hx hb dL_splits_172 rfl (lv_at hl 3 rfl) ?_
                    refine lv_iconst (v := (1 : Int32)) hx hb dL_splits_173 (by decide) ?_
                    refine lv_iadd hx hb dL_splits_174 ?_
                    refine lv_iconst (v := (0 : Int32)) hx hb dL_splits_175 (by decide) ?_
                    obtain ⟨q26, h25, h⟩ := Option.bind_eq_some_iff.mp h
                    refine kciA (va_runV (As := [.int y1, .int (y2 + (1 : Int32)), .int (0 : Int32)]) (rest := []) ⟨hx, hb, hml, hown, hts⟩ (aX9_beside l D cI cC cS lo aV q16.2 (X) y1 (y2 + (1 : Int32)) (0 : Int32) h25) (cwV 3 hts gL_splits_X9_beside rfl rfl rfl (by decide +kernel) ⟨Nat.le_of_ble_eq_true rfl, Nat.le_of_ble_eq_true rfl⟩) (kpreVA hP hK hN (Nat.le_trans hz hS.1)) rfl rfl hl.1 rfl (lv_room (Nat.le_of_ble_eq_true rfl)) dL_splits_176 ⟨Nat.le_of_ble_eq_true rfl, Nat.le_of_ble_eq_true rfl⟩) hS (fun H locs hP hS => ?_)
                    refine lv_iload hx hb dL_splits_179 (lv_at hl 7 rfl) ?_
                    refine lv_icmp_ne (tgt := 202) hx hb dL_splits_181 (by decide) (fun g => ?_) (fun g => ?_)
                    · rw [if_neg g] at h
                      refine lv_iconst (v := (0 : Int32)) hx hb dL_splits_202 (by decide) ?_
                      obtain rfl := Option.some.inj h
                      exact W.zret (v := (0 : Int32)) hx hb hr rfl (fun t ht hW => ⟨⟨_, (), rfl, rfl, by dsimp only; rw [ht]; exact hP⟩, hS.F ht⟩) hS.2.2 dL_splits_203
                    · rw [if_pos g] at h
                      refine lv_aload_n hx hb dL_splits_184 rfl (lv_at hl 1 rfl) ?_
                      refine lv_iload_n hx hb dL_splits_185 rfl (lv_at hl 2 rfl) ?_
                      refine lv_iload_n hx hb dL_splits_186 rfl (lv_at hl 3 rfl) ?_
                      refine lv_iconst (v := (1 : Int32)) hx hb dL_splits_187 (by decide) ?_
                      refine lv_iadd hx hb dL_splits_188 ?_
                      refine lv_iconst (v := (0 : Int32)) hx hb dL_splits_189 (by decide) ?_
                      obtain ⟨q28, h27, h⟩ := Option.bind_eq_some_iff.mp h
                      refine kciA (va_runV (As := [.int y1, .int (y2 + (1 : Int32)), .int (0 : Int32)]) (rest := []) ⟨hx, hb, hml, hown, hts⟩ (aX9_verse l D cI cC cS lo aV q16.2 (X) y1 (y2 + (1 : Int32)) (0 : Int32) h27) (cwV 3 hts gL_splits_X9_verse rfl rfl rfl (by decide +kernel) ⟨Nat.le_of_ble_eq_true rfl, Nat.le_of_ble_eq_true rfl⟩) (kpreVA hP hK hN (Nat.le_trans hz hS.1)) rfl rfl hl.1 rfl (lv_room (Nat.le_of_ble_eq_true rfl)) dL_splits_190 ⟨Nat.le_of_ble_eq_true rfl, Nat.le_of_ble_eq_true rfl⟩) hS (fun H locs hP hS => ?_)
                      refine lv_iload hx hb dL_splits_193 (lv_at hl 8 rfl) ?_
                      refine lv_icmp_ne (tgt := 202) hx hb dL_splits_195 (by decide) (fun g => ?_) (fun g => ?_)
                      · rw [if_neg g] at h
                        refine lv_iconst (v := (0 : Int32)) hx hb dL_splits_202 (by decide) ?_
                        obtain rfl := Option.some.inj h
                        exact W.zret (v := (0 : Int32)) hx hb hr rfl (fun t ht hW => ⟨⟨_, (), rfl, rfl, by dsimp only; rw [ht]; exact hP⟩, hS.F ht⟩) hS.2.2 dL_splits_203
                      · rw [if_pos g] at h
                        refine lv_iconst (v := (1 : Int32)) hx hb dL_splits_198 (by decide) ?_
                        refine lv_goto (tgt := 203) hx hb dL_splits_199 (by decide) ?_
                        obtain rfl := Option.some.inj h
                        exact W.zret (v := (1 : Int32)) hx hb hr rfl (fun t ht hW => ⟨⟨_, (), rfl, rfl, by dsimp only; rw [ht]; exact hP⟩, hS.F ht⟩) hS.2.2 dL_splits_203
        · rw [if_neg g] at h
          refine lv_iconst (v := (0 : Int32)) hx hb dL_splits_112 (by decide) ?_
          obtain rfl := Option.some.inj h
          exact W.zret (v := (0 : Int32)) hx hb hr rfl (fun t ht hW => ⟨⟨_, (), rfl, rfl, by dsimp only; rw [ht]; exact hP⟩, hS.F ht⟩) hS.2.2 dL_splits_113
  unfold pL_splits at h
  refine lv_aload_n hx hb dL_splits_0 rfl (lv_at hl 0 rfl) ?_
  refine lv_iconst (v := (2 : Int32)) hx hb dL_splits_1 (by decide) ?_
  refine lv_iload_n hx hb dL_splits_2 rfl (lv_at hl 1 rfl) ?_
  refine lv_iadd hx hb dL_splits_3 ?_
  obtain ⟨q2, h1, h⟩ := Option.bind_eq_some_iff.mp h
  refine kciA (va_runV (As := [.int ((2 : Int32) + i2)]) (rest := []) ⟨hx, hb, hml, hown, hts⟩ (aX9_count l D cI cC cS lo aV vO0 (X) ((2 : Int32) + i2) h1) (cwV 1 hts gL_splits_X9_count rfl rfl rfl (by decide +kernel) ⟨Nat.le_of_ble_eq_true rfl, Nat.le_of_ble_eq_true rfl⟩) (kpreVA hP hK hN (Nat.le_trans hz hS.1)) rfl rfl hl.1 rfl (lv_room (Nat.le_of_ble_eq_true rfl)) dL_splits_4 ⟨Nat.le_of_ble_eq_true rfl, Nat.le_of_ble_eq_true rfl⟩) hS (fun H locs hP hS => ?_)
  refine lv_istore (lv' := [(4, .int q2), (0, .ref aV), (1, .int i2), (2, .int i3), (3, .int i4)]) hx hb dL_splits_7 hl (by decide) rfl (fun ls hl => ?_)
  refine lv_aload_n hx hb dL_splits_9 rfl (lv_at hl 1 rfl) ?_
  refine lv_iload_n hx hb dL_splits_10 rfl (lv_at hl 2 rfl) ?_
  refine lv_iload_n hx hb dL_splits_11 rfl (lv_at hl 3 rfl) ?_
  refine lv_iconst (v := (2 : Int32)) hx hb dL_splits_12 (by decide) ?_
  obtain ⟨q4, h3, h⟩ := Option.bind_eq_some_iff.mp h
  refine kciA (va_runV (As := [.int i2, .int i3, .int (2 : Int32)]) (rest := []) ⟨hx, hb, hml, hown, hts⟩ (aX9_verse l D cI cC cS lo aV vO0 (X) i2 i3 (2 : Int32) h3) (cwV 3 hts gL_splits_X9_verse rfl rfl rfl (by decide +kernel) ⟨Nat.le_of_ble_eq_true rfl, Nat.le_of_ble_eq_true rfl⟩) (kpreVA hP hK hN (Nat.le_trans hz hS.1)) rfl rfl hl.1 rfl (lv_room (Nat.le_of_ble_eq_true rfl)) dL_splits_13 ⟨Nat.le_of_ble_eq_true rfl, Nat.le_of_ble_eq_true rfl⟩) hS (fun H locs hP hS => ?_)
  refine lv_istore (lv' := [(5, .int q4), (4, .int q2), (0, .ref aV), (1, .int i2), (2, .int i3), (3, .int i4)]) hx hb dL_splits_16 hl (by decide) rfl (fun ls hl => ?_)
  refine lv_aload_n hx hb dL_splits_18 rfl (lv_at hl 2 rfl) ?_
  refine lv_iload_n hx hb dL_splits_19 rfl (lv_at hl 3 rfl) ?_
  refine lv_iload_n hx hb dL_splits_20 rfl (lv_at hl 4 rfl) ?_
  refine lv_iconst (v := (3 : Int32)) hx hb dL_splits_21 (by decide) ?_
  obtain ⟨q6, h5, h⟩ := Option.bind_eq_some_iff.mp h
  refine kciA (va_runV (As := [.int i2, .int i3, .int (3 : Int32)]) (rest := []) ⟨hx, hb, hml, hown, hts⟩ (aX9_verse l D cI cC cS lo aV vO0 (X) i2 i3 (3 : Int32) h5) (cwV 3 hts gL_splits_X9_verse rfl rfl rfl (by decide +kernel) ⟨Nat.le_of_ble_eq_true rfl, Nat.le_of_ble_eq_true rfl⟩) (kpreVA hP hK hN (Nat.le_trans hz hS.1)) rfl rfl hl.1 rfl (lv_room (Nat.le_of_ble_eq_true rfl)) dL_splits_22 ⟨Nat.le_of_ble_eq_true rfl, Nat.le_of_ble_eq_true rfl⟩) hS (fun H locs hP hS => ?_)
  refine lv_istore (lv' := [(6, .int q6), (5, .int q4), (4, .int q2), (0, .ref aV), (1, .int i2), (2, .int i3), (3, .int i4)]) hx hb dL_splits_25 hl (by decide) rfl (fun ls hl => ?_)
  refine lv_aload_n hx hb dL_splits_27 rfl (lv_at hl 3 rfl) ?_
  refine lv_iload_n hx hb dL_splits_28 rfl (lv_at hl 4 rfl) ?_
  refine lv_iload_n hx hb dL_splits_29 rfl (lv_at hl 5 rfl) ?_
  refine lv_iconst (v := (0 : Int32)) hx hb dL_splits_30 (by decide) ?_
  obtain ⟨q8, h7, h⟩ := Option.bind_eq_some_iff.mp h
  refine kciA (va_runV (As := [.int i2, .int i3, .int (0 : Int32)]) (rest := []) ⟨hx, hb, hml, hown, hts⟩ (aX9_beside l D cI cC cS lo aV vO0 (X) i2 i3 (0 : Int32) h7) (cwV 3 hts gL_splits_X9_beside rfl rfl rfl (by decide +kernel) ⟨Nat.le_of_ble_eq_true rfl, Nat.le_of_ble_eq_true rfl⟩) (kpreVA hP hK hN (Nat.le_trans hz hS.1)) rfl rfl hl.1 rfl (lv_room (Nat.le_of_ble_eq_true rfl)) dL_splits_31 ⟨Nat.le_of_ble_eq_true rfl, Nat.le_of_ble_eq_true rfl⟩) hS (fun H locs hP hS => ?_)
  refine lv_istore (lv' := [(7, .int q8), (6, .int q6), (5, .int q4), (4, .int q2), (0, .ref aV), (1, .int i2), (2, .int i3), (3, .int i4)]) hx hb dL_splits_34 hl (by decide) rfl (fun ls hl => ?_)
  refine lv_aload_n hx hb dL_splits_36 rfl (lv_at hl 4 rfl) ?_
  refine lv_iload_n hx hb dL_splits_37 rfl (lv_at hl 5 rfl) ?_
  refine lv_iload_n hx hb dL_splits_38 rfl (lv_at hl 6 rfl) ?_
  refine lv_iconst (v := (0 : Int32)) hx hb dL_splits_39 (by decide) ?_
  obtain ⟨q10, h9, h⟩ := Option.bind_eq_some_iff.mp h
  refine kciA (va_runV (As := [.int i2, .int i3, .int (0 : Int32)]) (rest := []) ⟨hx, hb, hml, hown, hts⟩ (aX9_verse l D cI cC cS lo aV vO0 (X) i2 i3 (0 : Int32) h9) (cwV 3 hts gL_splits_X9_verse rfl rfl rfl (by decide +kernel) ⟨Nat.le_of_ble_eq_true rfl, Nat.le_of_ble_eq_true rfl⟩) (kpreVA hP hK hN (Nat.le_trans hz hS.1)) rfl rfl hl.1 rfl (lv_room (Nat.le_of_ble_eq_true rfl)) dL_splits_40 ⟨Nat.le_of_ble_eq_true rfl, Nat.le_of_ble_eq_true rfl⟩) hS (fun H locs hP hS => ?_)
  refine lv_istore (lv' := [(8, .int q10), (7, .int q8), (6, .int q6), (5, .int q4), (4, .int q2), (0, .ref aV), (1, .int i2), (2, .int i3), (3, .int i4)]) hx hb dL_splits_43 hl (by decide) rfl (fun ls hl => ?_)
  refine lv_iload_n hx hb dL_splits_45 rfl (lv_at hl 8 rfl) ?_
  refine lv_iload hx hb dL_splits_46 (lv_at hl 3 rfl) ?_
  refine lv_icmp_lt (tgt := 56) hx hb dL_splits_48 (by decide) (fun g => ?_) (fun g => ?_)
  · rw [if_pos g] at h
    refine lv_iload hx hb dL_splits_56 (lv_at hl 4 rfl) ?_
    refine lv_bipush (v := (60 : Int32)) hx hb dL_splits_58 (by decide) ?_
    refine lv_icmp_ne (tgt := 68) hx hb dL_splits_60 (by decide) (fun g => ?_) (fun g => ?_)
    · rw [if_neg g] at h
      refine lv_iload hx hb dL_splits_68 (lv_at hl 4 rfl) ?_
      refine lv_iconst (v := (1 : Int32)) hx hb dL_splits_70 (by decide) ?_
      refine lv_iadd hx hb dL_splits_71 ?_
      exact j72 vO0 i2 i3 i4 q4 q6 q8 q10 (q2 + (1 : Int32)) _ _ _ h hP hS (lv_sub hl [5, 6, 7, 8, 3, 2, 1, 0] rfl)
    · rw [if_pos g] at h
      refine lv_bipush (v := (-3 : Int32)) hx hb dL_splits_63 (by decide) ?_
      refine lv_goto (tgt := 72) hx hb dL_splits_65 (by decide) ?_
      exact j72 vO0 i2 i3 i4 q4 q6 q8 q10 (-3 : Int32) _ _ _ h hP hS (lv_sub hl [5, 6, 7, 8, 3, 2, 1, 0] rfl)
  · rw [if_neg g] at h
    refine lv_bipush (v := (-4 : Int32)) hx hb dL_splits_51 (by decide) ?_
    refine lv_goto (tgt := 72) hx hb dL_splits_53 (by decide) ?_
    exact j72 vO0 i2 i3 i4 q4 q6 q8 q10 (-4 : Int32) _ _ _ h hP hS (lv_sub hl [5, 6, 7, 8, 3, 2, 1, 0] rfl)
set_option maxHeartbeats 8000000 in
set_option maxRecDepth 100000 in
theorem kL_parts (l : Launch) (D : va_G) (cI cC cS : ClassId) (lo aV : Nat) (vO0 : Sg) (X : va_W) (i2 : Int32) (i3 : Int32) (i4 : Int32) {q : Int32 × Sg} (h : pL_parts vO0 i2 i3 i4 = some q) : kAc l yL_parts wsL_parts ({ frames := 7, cells := 0, slots := 0, locals := 165 } : Room) D (kTy cI cC cS) lo [.ref aV, .int i2, .int i3, .int i4] (aW D cI cC cS lo aV vO0 X) (aW D cI cC cS lo aV q.2 X) q.1 0 0 := by
  refine Met.ofW (cc := cL_parts) (maxL := 9) (ret := (some .boolean)) (by decide) rfl ?_
  intro p e s m args below meth c s₁ B hml hv
  obtain ⟨rfl, hP, hK, hN, hz⟩ := hv
  have hx := B.exec
  have hb := B.bytes
  have hr := B.returns
  have hts := atoms_spec (ws := wsL_parts) B.pre
  have hown : s.vm.findClass RL = some m.cls := findClass_of_methodNamed B.named
  have hlocks := B.notSynchronized
  have hS : va_S (fun q => lo ≤ q) s.heap s.heap [] := va_S.rf
  have hl := lv_entry ([.ref aV, .int i2, .int i3, .int i4]) (n := 9) (Nat.le_of_ble_eq_true rfl)
  rw [lg_entry_eq]
  generalize (lg_sl ([.ref aV, .int i2, .int i3, .int i4]) ++ List.replicate (9 - (lg_sl ([.ref aV, .int i2, .int i3, .int i4])).length) Slot.unset).toArray = ls at hl ⊢
  have hl : lv_has ls 9 [(0, .ref aV), (1, .int i2), (2, .int i3), (3, .int i4)] := hl
  have j189 : ∀ (c0_0 : Sg) (y1 : Int32) (y4 : Int32) (y5 : Int32) (y6 : Int32) (t0 : Int32) (H : Heap) (locs : List Loc) (ls : Array Slot), pL_parts_j189  c0_0 y1 y4 y5 y6 t0 = some q → (aW D cI cC cS lo aV c0_0 X) H → va_S (fun q => lo ≤ q) s.heap H locs → lv_has ls 9 [(0, .ref aV), (1, .int y1), (4, .int y4), (5, .int y5), (6, .int y6)] → W p l e ({ frames := 7, cells := 0, slots := 0, locals := 165 } : Room) s m ([.ref aV, .int i2, .int i3, .int i4] : List Value).toArray below meth c H locs 0 0 (MQ below (va_Qi (fun (r : Int32) (_ : Unit) => r = q.1) (fun _ t => (aW D cI cC cS lo aV q.2 X) t.heap) (fun q => lo ≤ q)) ([.ref aV, .int i2, .int i3, .int i4] : List Value).toArray s 0 0 (fun q => lo ≤ q)) (F0 m 189 ls [.int t0]) := by
    clear h hP hS hl
    intro c0_0 y1 y4 y5 y6 t0 H locs ls h hP hS hl
    unfold pL_parts_j189 at h
    refine lv_istore (lv' := [(8, .int t0), (0, .ref aV), (1, .int y1), (4, .int y4), (5, .int y5), (6, .int y6)]) hx hb dL_parts_189 hl (by decide) rfl (fun ls hl => ?_)
    refine lv_iload hx hb dL_parts_191 (lv_at hl 0 rfl) ?_
    refine lv_if_eq (tgt := 251) hx hb dL_parts_193 (by decide) (fun g => ?_) (fun g => ?_)
    · rw [if_pos g] at h
      refine lv_iconst (v := (0 : Int32)) hx hb dL_parts_251 (by decide) ?_
      obtain rfl := Option.some.inj h
      exact W.zret (v := (0 : Int32)) hx hb hr rfl (fun t ht hW => ⟨⟨_, (), rfl, rfl, by dsimp only; rw [ht]; exact hP⟩, hS.F ht⟩) hS.2.2 dL_parts_252
    · rw [if_neg g] at h
      refine lv_aload_n hx hb dL_parts_196 rfl (lv_at hl 1 rfl) ?_
      refine lv_iload_n hx hb dL_parts_197 rfl (lv_at hl 2 rfl) ?_
      obtain ⟨q18, h17, h⟩ := Option.bind_eq_some_iff.mp h
      refine kciA (va_runV (As := [.int y1]) (rest := []) ⟨hx, hb, hml, hown, hts⟩ (aX9_link l D cI cC cS lo aV c0_0 (X) y1 h17) (cwV 1 hts gL_parts_X9_link rfl rfl rfl (by decide +kernel) ⟨Nat.le_of_ble_eq_true rfl, Nat.le_of_ble_eq_true rfl⟩) (kpreVA hP hK hN (Nat.le_trans hz hS.1)) rfl rfl hl.1 rfl (lv_room (Nat.le_of_ble_eq_true rfl)) dL_parts_198 ⟨Nat.le_of_ble_eq_true rfl, Nat.le_of_ble_eq_true rfl⟩) hS (fun H locs hP hS => ?_)
      refine lv_iload hx hb dL_parts_201 (lv_at hl 5 rfl) ?_
      refine lv_icmp_ne (tgt := 251) hx hb dL_parts_203 (by decide) (fun g => ?_) (fun g => ?_)
      · rw [if_neg g] at h
        refine lv_iconst (v := (0 : Int32)) hx hb dL_parts_251 (by decide) ?_
        obtain rfl := Option.some.inj h
        exact W.zret (v := (0 : Int32)) hx hb hr rfl (fun t ht hW => ⟨⟨_, (), rfl, rfl, by dsimp only; rw [ht]; exact hP⟩, hS.F ht⟩) hS.2.2 dL_parts_252
      · rw [if_pos g] at h
        refine lv_aload_n hx hb dL_parts_206 rfl (lv_at hl 1 rfl) ?_
        refine lv_iload_n hx hb dL_parts_207 rfl (lv_at hl 2 rfl) ?_
        refine lv_iconst (v := (2 : Int32)) hx hb dL_parts_208 (by decide) ?_
        obtain ⟨q20, h19, h⟩ := Option.bind_eq_some_iff.mp h
        refine kciA (va_runV (As := [.int y1, .int (2 : Int32)]) (rest := []) ⟨hx, hb, hml, hown, hts⟩ (aX9_group l D cI cC cS lo aV q18.2 (X) y1 (2 : Int32) h19) (cwV 2 hts gL_parts_X9_group rfl rfl rfl (by decide +kernel) ⟨Nat.le_of_ble_eq_true rfl, Nat.le_of_ble_eq_true rfl⟩) (kpreVA hP hK hN (Nat.le_trans hz hS.1)) rfl rfl hl.1 rfl (lv_room (Nat.le_of_ble_eq_true rfl)) dL_parts_209 ⟨Nat.le_of_ble_eq_true rfl, Nat.le_of_ble_eq_true rfl⟩) hS (fun H locs hP hS => ?_)
        refine lv_iload hx hb dL_parts_212 (lv_at hl 3 rfl) ?_
        refine lv_icmp_ne (tgt := 251) hx hb dL_parts_214 (by decide) (fun g => ?_) (fun g => ?_)
        · rw [if_neg g] at h
          refine lv_iconst (v := (0 : Int32)) hx hb dL_parts_251 (by decide) ?_
          obtain rfl := Option.some.inj h
          exact W.zret (v := (0 : Int32)) hx hb hr rfl (fun t ht hW => ⟨⟨_, (), rfl, rfl, by dsimp only; rw [ht]; exact hP⟩, hS.F ht⟩) hS.2.2 dL_parts_252
        · rw [if_pos g] at h
          refine lv_aload_n hx hb dL_parts_217 rfl (lv_at hl 1 rfl) ?_
          refine lv_iload_n hx hb dL_parts_218 rfl (lv_at hl 2 rfl) ?_
          refine lv_iconst (v := (4 : Int32)) hx hb dL_parts_219 (by decide) ?_
          obtain ⟨q22, h21, h⟩ := Option.bind_eq_some_iff.mp h
          refine kciA (va_runV (As := [.int y1, .int (4 : Int32)]) (rest := []) ⟨hx, hb, hml, hown, hts⟩ (aX9_group l D cI cC cS lo aV q18.2 (X) y1 (4 : Int32) h21) (cwV 2 hts gL_parts_X9_group rfl rfl rfl (by decide +kernel) ⟨Nat.le_of_ble_eq_true rfl, Nat.le_of_ble_eq_true rfl⟩) (kpreVA hP hK hN (Nat.le_trans hz hS.1)) rfl rfl hl.1 rfl (lv_room (Nat.le_of_ble_eq_true rfl)) dL_parts_220 ⟨Nat.le_of_ble_eq_true rfl, Nat.le_of_ble_eq_true rfl⟩) hS (fun H locs hP hS => ?_)
          refine lv_iload hx hb dL_parts_223 (lv_at hl 4 rfl) ?_
          refine lv_icmp_ne (tgt := 251) hx hb dL_parts_225 (by decide) (fun g => ?_) (fun g => ?_)
          · rw [if_neg g] at h
            refine lv_iconst (v := (0 : Int32)) hx hb dL_parts_251 (by decide) ?_
            obtain rfl := Option.some.inj h
            exact W.zret (v := (0 : Int32)) hx hb hr rfl (fun t ht hW => ⟨⟨_, (), rfl, rfl, by dsimp only; rw [ht]; exact hP⟩, hS.F ht⟩) hS.2.2 dL_parts_252
          · rw [if_pos g] at h
            refine lv_aload_n hx hb dL_parts_228 rfl (lv_at hl 1 rfl) ?_
            obtain ⟨q24, h23, h⟩ := Option.bind_eq_some_iff.mp h
            refine kciA (va_runV (As := []) (rest := []) ⟨hx, hb, hml, hown, hts⟩ (aX9_undo l D cI cC cS lo aV q18.2 (X) h23) (cwV 0 hts gL_parts_X9_undo rfl rfl rfl (by decide +kernel) ⟨Nat.le_of_ble_eq_true rfl, Nat.le_of_ble_eq_true rfl⟩) (kpreVA hP hK hN (Nat.le_trans hz hS.1)) rfl rfl hl.1 rfl (lv_room (Nat.le_of_ble_eq_true rfl)) dL_parts_229 ⟨Nat.le_of_ble_eq_true rfl, Nat.le_of_ble_eq_true rfl⟩) hS (fun H locs hP hS => ?_)
            refine lv_if_lt (tgt := 251) hx hb dL_parts_232 (by decide) (fun g => ?_) (fun g => ?_)
            · rw [if_pos g] at h
              refine lv_iconst (v := (0 : Int32)) hx hb dL_parts_251 (by decide) ?_
              obtain rfl := Option.some.inj h
              exact W.zret (v := (0 : Int32)) hx hb hr rfl (fun t ht hW => ⟨⟨_, (), rfl, rfl, by dsimp only; rw [ht]; exact hP⟩, hS.F ht⟩) hS.2.2 dL_parts_252
            · rw [if_neg g] at h
              refine lv_aload_n hx hb dL_parts_235 rfl (lv_at hl 1 rfl) ?_
              refine lv_iconst (v := (4 : Int32)) hx hb dL_parts_236 (by decide) ?_
              obtain ⟨q26, h25, h⟩ := Option.bind_eq_some_iff.mp h
              refine kciA (va_runV (As := [.int (4 : Int32)]) (rest := []) ⟨hx, hb, hml, hown, hts⟩ (aX9_count l D cI cC cS lo aV q24.2 (X) (4 : Int32) h25) (cwV 1 hts gL_parts_X9_count rfl rfl rfl (by decide +kernel) ⟨Nat.le_of_ble_eq_true rfl, Nat.le_of_ble_eq_true rfl⟩) (kpreVA hP hK hN (Nat.le_trans hz hS.1)) rfl rfl hl.1 rfl (lv_room (Nat.le_of_ble_eq_true rfl)) dL_parts_237 ⟨Nat.le_of_ble_eq_true rfl, Nat.le_of_ble_eq_true rfl⟩) hS (fun H locs hP hS => ?_)
              refine lv_iload hx hb dL_parts_240 (lv_at hl 5 rfl) ?_
              refine lv_iconst (v := (1 : Int32)) hx hb dL_parts_242 (by decide) ?_
              refine lv_iadd hx hb dL_parts_243 ?_
              refine lv_icmp_ne (tgt := 251) hx hb dL_parts_244 (by decide) (fun g => ?_) (fun g => ?_)
              · rw [if_neg g] at h
                refine lv_iconst (v := (0 : Int32)) hx hb dL_parts_251 (by decide) ?_
                obtain rfl := Option.some.inj h
                exact W.zret (v := (0 : Int32)) hx hb hr rfl (fun t ht hW => ⟨⟨_, (), rfl, rfl, by dsimp only; rw [ht]; exact hP⟩, hS.F ht⟩) hS.2.2 dL_parts_252
              · rw [if_pos g] at h
                refine lv_iconst (v := (1 : Int32)) hx hb dL_parts_247 (by decide) ?_
                refine lv_goto (tgt := 252) hx hb dL_parts_248 (by decide) ?_
                obtain rfl := Option.some.inj h
                exact W.zret (v := (1 : Int32)) hx hb hr rfl (fun t ht hW => ⟨⟨_, (), rfl, rfl, by dsimp only; rw [ht]; exact hP⟩, hS.F ht⟩) hS.2.2 dL_parts_252
  have j188 : ∀ (c0_0 : Sg) (y1 : Int32) (y4 : Int32) (y5 : Int32) (y6 : Int32) (H : Heap) (locs : List Loc) (ls : Array Slot), pL_parts_j188  c0_0 y1 y4 y5 y6 = some q → (aW D cI cC cS lo aV c0_0 X) H → va_S (fun q => lo ≤ q) s.heap H locs → lv_has ls 9 [(0, .ref aV), (1, .int y1), (4, .int y4), (5, .int y5), (6, .int y6)] → W p l e ({ frames := 7, cells := 0, slots := 0, locals := 165 } : Room) s m ([.ref aV, .int i2, .int i3, .int i4] : List Value).toArray below meth c H locs 0 0 (MQ below (va_Qi (fun (r : Int32) (_ : Unit) => r = q.1) (fun _ t => (aW D cI cC cS lo aV q.2 X) t.heap) (fun q => lo ≤ q)) ([.ref aV, .int i2, .int i3, .int i4] : List Value).toArray s 0 0 (fun q => lo ≤ q)) (F0 m 188 ls []) := by
    clear h hP hS hl
    intro c0_0 y1 y4 y5 y6 H locs ls h hP hS hl
    unfold pL_parts_j188 at h
    refine lv_iconst (v := (0 : Int32)) hx hb dL_parts_188 (by decide) ?_
    exact j189 c0_0 y1 y4 y5 y6 (0 : Int32) _ _ _ h hP hS (lv_sub hl [0, 1, 2, 3, 4] rfl)
  have j80 : ∀ (c0_0 : Sg) (y1 : Int32) (y2 : Int32) (y3 : Int32) (y4 : Int32) (y5 : Int32) (y6 : Int32) (y7 : Int32) (t0 : Int32) (t1 : Int32) (H : Heap) (locs : List Loc) (ls : Array Slot), pL_parts_j80  c0_0 y1 y2 y3 y4 y5 y6 y7 t0 t1 = some q → (aW D cI cC cS lo aV c0_0 X) H → va_S (fun q => lo ≤ q) s.heap H locs → lv_has ls 9 [(0, .ref aV), (1, .int y1), (2, .int y2), (3, .int y3), (4, .int y4), (5, .int y5), (6, .int y6), (7, .int y7)] → W p l e ({ frames := 7, cells := 0, slots := 0, locals := 165 } : Room) s m ([.ref aV, .int i2, .int i3, .int i4] : List Value).toArray below meth c H locs 0 0 (MQ below (va_Qi (fun (r : Int32) (_ : Unit) => r = q.1) (fun _ t => (aW D cI cC cS lo aV q.2 X) t.heap) (fun q => lo ≤ q)) ([.ref aV, .int i2, .int i3, .int i4] : List Value).toArray s 0 0 (fun q => lo ≤ q)) (F0 m 80 ls [.int t1, .int t0]) := by
    clear h hP hS hl
    intro c0_0 y1 y2 y3 y4 y5 y6 y7 t0 t1 H locs ls h hP hS hl
    unfold pL_parts_j80 at h
    refine lv_icmp_ne (tgt := 111) hx hb dL_parts_80 (by decide) (fun g => ?_) (fun g => ?_)
    · rw [if_neg g] at h
      refine lv_iconst (v := (0 : Int32)) hx hb dL_parts_111 (by decide) ?_
      obtain rfl := Option.some.inj h
      exact W.zret (v := (0 : Int32)) hx hb hr rfl (fun t ht hW => ⟨⟨_, (), rfl, rfl, by dsimp only; rw [ht]; exact hP⟩, hS.F ht⟩) hS.2.2 dL_parts_112
    · rw [if_pos g] at h
      refine lv_aload_n hx hb dL_parts_83 rfl (lv_at hl 0 rfl) ?_
      refine lv_iload_n hx hb dL_parts_84 rfl (lv_at hl 1 rfl) ?_
      refine lv_bipush (v := (61 : Int32)) hx hb dL_parts_85 (by decide) ?_
      refine lv_iconst (v := (0 : Int32)) hx hb dL_parts_87 (by decide) ?_
      obtain ⟨q10, h9, h⟩ := Option.bind_eq_some_iff.mp h
      refine kciA (va_runV (As := [.int y1, .int (61 : Int32), .int (0 : Int32)]) (rest := []) ⟨hx, hb, hml, hown, hts⟩ (aX9_part l D cI cC cS lo aV c0_0 (X) y1 (61 : Int32) (0 : Int32) h9) (cwV 3 hts gL_parts_X9_part rfl rfl rfl (by decide +kernel) ⟨Nat.le_of_ble_eq_true rfl, Nat.le_of_ble_eq_true rfl⟩) (kpreVA hP hK hN (Nat.le_trans hz hS.1)) rfl rfl hl.1 rfl (lv_room (Nat.le_of_ble_eq_true rfl)) dL_parts_88 ⟨Nat.le_of_ble_eq_true rfl, Nat.le_of_ble_eq_true rfl⟩) hS (fun H locs hP hS => ?_)
      refine lv_bipush (v := (-2 : Int32)) hx hb dL_parts_91 (by decide) ?_
      refine lv_icmp_ne (tgt := 111) hx hb dL_parts_93 (by decide) (fun g => ?_) (fun g => ?_)
      · rw [if_neg g] at h
        refine lv_iconst (v := (0 : Int32)) hx hb dL_parts_111 (by decide) ?_
        obtain rfl := Option.some.inj h
        exact W.zret (v := (0 : Int32)) hx hb hr rfl (fun t ht hW => ⟨⟨_, (), rfl, rfl, by dsimp only; rw [ht]; exact hP⟩, hS.F ht⟩) hS.2.2 dL_parts_112
      · rw [if_pos g] at h
        refine lv_aload_n hx hb dL_parts_96 rfl (lv_at hl 0 rfl) ?_
        refine lv_aload_n hx hb dL_parts_97 rfl (lv_at hl 0 rfl) ?_
        refine lv_iconst (v := (4 : Int32)) hx hb dL_parts_98 (by decide) ?_
        obtain ⟨q12, h11, h⟩ := Option.bind_eq_some_iff.mp h
        refine kciA (va_runV (As := [.int (4 : Int32)]) (rest := [.ref aV]) ⟨hx, hb, hml, hown, hts⟩ (aX9_count l D cI cC cS lo aV q10.2 (X) (4 : Int32) h11) (cwV 1 hts gL_parts_X9_count rfl rfl rfl (by decide +kernel) ⟨Nat.le_of_ble_eq_true rfl, Nat.le_of_ble_eq_true rfl⟩) (kpreVA hP hK hN (Nat.le_trans hz hS.1)) rfl rfl hl.1 rfl (lv_room (Nat.le_of_ble_eq_true rfl)) dL_parts_99 ⟨Nat.le_of_ble_eq_true rfl, Nat.le_of_ble_eq_true rfl⟩) hS (fun H locs hP hS => ?_)
        refine lv_iconst (v := (0 : Int32)) hx hb dL_parts_102 (by decide) ?_
        refine lv_iconst (v := (0 : Int32)) hx hb dL_parts_103 (by decide) ?_
        obtain ⟨q14, h13, h⟩ := Option.bind_eq_some_iff.mp h
        refine kciA (va_runV (As := [.int q12, .int (0 : Int32), .int (0 : Int32)]) (rest := []) ⟨hx, hb, hml, hown, hts⟩ (aX9_part l D cI cC cS lo aV q10.2 (X) q12 (0 : Int32) (0 : Int32) h13) (cwV 3 hts gL_parts_X9_part rfl rfl rfl (by decide +kernel) ⟨Nat.le_of_ble_eq_true rfl, Nat.le_of_ble_eq_true rfl⟩) (kpreVA hP hK hN (Nat.le_trans hz hS.1)) rfl rfl hl.1 rfl (lv_room (Nat.le_of_ble_eq_true rfl)) dL_parts_104 ⟨Nat.le_of_ble_eq_true rfl, Nat.le_of_ble_eq_true rfl⟩) hS (fun H locs hP hS => ?_)
        refine lv_iconst (v := (-1 : Int32)) hx hb dL_parts_107 (by decide) ?_
        refine lv_icmp_eq (tgt := 113) hx hb dL_parts_108 (by decide) (fun g => ?_) (fun g => ?_)
        · rw [if_pos g] at h
          refine lv_iload hx hb dL_parts_113 (lv_at hl 7 rfl) ?_
          refine lv_if_ne (tgt := 134) hx hb dL_parts_115 (by decide) (fun g => ?_) (fun g => ?_)
          · rw [if_neg g] at h
            refine lv_aload_n hx hb dL_parts_134 rfl (lv_at hl 0 rfl) ?_
            refine lv_iload_n hx hb dL_parts_135 rfl (lv_at hl 1 rfl) ?_
            refine lv_iconst (v := (2 : Int32)) hx hb dL_parts_136 (by decide) ?_
            obtain ⟨q16, h15, h⟩ := Option.bind_eq_some_iff.mp h
            refine kciA (va_runV (As := [.int y1, .int (2 : Int32)]) (rest := []) ⟨hx, hb, hml, hown, hts⟩ (aX9_group l D cI cC cS lo aV q14.2 (X) y1 (2 : Int32) h15) (cwV 2 hts gL_parts_X9_group rfl rfl rfl (by decide +kernel) ⟨Nat.le_of_ble_eq_true rfl, Nat.le_of_ble_eq_true rfl⟩) (kpreVA hP hK hN (Nat.le_trans hz hS.1)) rfl rfl hl.1 rfl (lv_room (Nat.le_of_ble_eq_true rfl)) dL_parts_137 ⟨Nat.le_of_ble_eq_true rfl, Nat.le_of_ble_eq_true rfl⟩) hS (fun H locs hP hS => ?_)
            refine lv_iload_n hx hb dL_parts_140 rfl (lv_at hl 2 rfl) ?_
            refine lv_icmp_ne (tgt := 188) hx hb dL_parts_141 (by decide) (fun g => ?_) (fun g => ?_)
            · rw [if_neg g] at h
              exact j188 q14.2 y1 y4 y5 y6 _ _ _ h hP hS (lv_sub hl [0, 1, 4, 5, 6] rfl)
            · rw [if_pos g] at h
              refine lv_aload_n hx hb dL_parts_144 rfl (lv_at hl 0 rfl) ?_
              refine lv_iload_n hx hb dL_parts_145 rfl (lv_at hl 1 rfl) ?_
              refine lv_iconst (v := (4 : Int32)) hx hb dL_parts_146 (by decide) ?_
              obtain ⟨q28, h27, h⟩ := Option.bind_eq_some_iff.mp h
              refine kciA (va_runV (As := [.int y1, .int (4 : Int32)]) (rest := []) ⟨hx, hb, hml, hown, hts⟩ (aX9_group l D cI cC cS lo aV q14.2 (X) y1 (4 : Int32) h27) (cwV 2 hts gL_parts_X9_group rfl rfl rfl (by decide +kernel) ⟨Nat.le_of_ble_eq_true rfl, Nat.le_of_ble_eq_true rfl⟩) (kpreVA hP hK hN (Nat.le_trans hz hS.1)) rfl rfl hl.1 rfl (lv_room (Nat.le_of_ble_eq_true rfl)) dL_parts_147 ⟨Nat.le_of_ble_eq_true rfl, Nat.le_of_ble_eq_true rfl⟩) hS (fun H locs hP hS => ?_)
              refine lv_iload_n hx hb dL_parts_150 rfl (lv_at hl 3 rfl) ?_
              refine lv_icmp_ne (tgt := 188) hx hb dL_parts_151 (by decide) (fun g => ?_) (fun g => ?_)
              · rw [if_neg g] at h
                exact j188 q14.2 y1 y4 y5 y6 _ _ _ h hP hS (lv_sub hl [0, 1, 4, 5, 6] rfl)
              · rw [if_pos g] at h
                refine lv_aload_n hx hb dL_parts_154 rfl (lv_at hl 0 rfl) ?_
                refine lv_iload_n hx hb dL_parts_155 rfl (lv_at hl 1 rfl) ?_
                refine lv_iconst (v := (1 : Int32)) hx hb dL_parts_156 (by decide) ?_
                refine lv_iadd hx hb dL_parts_157 ?_
                refine lv_iconst (v := (2 : Int32)) hx hb dL_parts_158 (by decide) ?_
                obtain ⟨q30, h29, h⟩ := Option.bind_eq_some_iff.mp h
                refine kciA (va_runV (As := [.int (y1 + (1 : Int32)), .int (2 : Int32)]) (rest := []) ⟨hx, hb, hml, hown, hts⟩ (aX9_group l D cI cC cS lo aV q14.2 (X) (y1 + (1 : Int32)) (2 : Int32) h29) (cwV 2 hts gL_parts_X9_group rfl rfl rfl (by decide +kernel) ⟨Nat.le_of_ble_eq_true rfl, Nat.le_of_ble_eq_true rfl⟩) (kpreVA hP hK hN (Nat.le_trans hz hS.1)) rfl rfl hl.1 rfl (lv_room (Nat.le_of_ble_eq_true rfl)) dL_parts_159 ⟨Nat.le_of_ble_eq_true rfl, Nat.le_of_ble_eq_true rfl⟩) hS (fun H locs hP hS => ?_)
                refine lv_iload hx hb dL_parts_162 (lv_at hl 4 rfl) ?_
                refine lv_iload_n hx hb dL_parts_164 rfl (lv_at hl 2 rfl) ?_
                refine lv_isub hx hb dL_parts_165 ?_
                refine lv_icmp_ne (tgt := 188) hx hb dL_parts_166 (by decide) (fun g => ?_) (fun g => ?_)
                · rw [if_neg g] at h
                  exact j188 q14.2 y1 y4 y5 y6 _ _ _ h hP hS (lv_sub hl [0, 1, 4, 5, 6] rfl)
                · rw [if_pos g] at h
                  refine lv_aload_n hx hb dL_parts_169 rfl (lv_at hl 0 rfl) ?_
                  refine lv_iload_n hx hb dL_parts_170 rfl (lv_at hl 1 rfl) ?_
                  refine lv_iconst (v := (1 : Int32)) hx hb dL_parts_171 (by decide) ?_
                  refine lv_iadd hx hb dL_parts_172 ?_
                  refine lv_iconst (v := (4 : Int32)) hx hb dL_parts_173 (by decide) ?_
                  obtain ⟨q32, h31, h⟩ := Option.bind_eq_some_iff.mp h
                  refine kciA (va_runV (As := [.int (y1 + (1 : Int32)), .int (4 : Int32)]) (rest := []) ⟨hx, hb, hml, hown, hts⟩ (aX9_group l D cI cC cS lo aV q14.2 (X) (y1 + (1 : Int32)) (4 : Int32) h31) (cwV 2 hts gL_parts_X9_group rfl rfl rfl (by decide +kernel) ⟨Nat.le_of_ble_eq_true rfl, Nat.le_of_ble_eq_true rfl⟩) (kpreVA hP hK hN (Nat.le_trans hz hS.1)) rfl rfl hl.1 rfl (lv_room (Nat.le_of_ble_eq_true rfl)) dL_parts_174 ⟨Nat.le_of_ble_eq_true rfl, Nat.le_of_ble_eq_true rfl⟩) hS (fun H locs hP hS => ?_)
                  refine lv_iload hx hb dL_parts_177 (lv_at hl 5 rfl) ?_
                  refine lv_iload_n hx hb dL_parts_179 rfl (lv_at hl 3 rfl) ?_
                  refine lv_isub hx hb dL_parts_180 ?_
                  refine lv_icmp_ne (tgt := 188) hx hb dL_parts_181 (by decide) (fun g => ?_) (fun g => ?_)
                  · rw [if_neg g] at h
                    exact j188 q14.2 y1 y4 y5 y6 _ _ _ h hP hS (lv_sub hl [0, 1, 4, 5, 6] rfl)
                  · rw [if_pos g] at h
                    refine lv_iconst (v := (1 : Int32)) hx hb dL_parts_184 (by decide) ?_
                    refine lv_goto (tgt := 189) hx hb dL_parts_185 (by decide) ?_
                    exact j189 q14.2 y1 y4 y5 y6 (1 : Int32) _ _ _ h hP hS (lv_sub hl [0, 1, 4, 5, 6] rfl)
          · rw [if_pos g] at h
            refine lv_aload_n hx hb dL_parts_118 rfl (lv_at hl 0 rfl) ?_
            refine lv_iconst (v := (4 : Int32)) hx hb dL_parts_119 (by decide) ?_
            obtain ⟨q34, h33, h⟩ := Option.bind_eq_some_iff.mp h
            refine kciA (va_runV (As := [.int (4 : Int32)]) (rest := []) ⟨hx, hb, hml, hown, hts⟩ (aX9_count l D cI cC cS lo aV q14.2 (X) (4 : Int32) h33) (cwV 1 hts gL_parts_X9_count rfl rfl rfl (by decide +kernel) ⟨Nat.le_of_ble_eq_true rfl, Nat.le_of_ble_eq_true rfl⟩) (kpreVA hP hK hN (Nat.le_trans hz hS.1)) rfl rfl hl.1 rfl (lv_room (Nat.le_of_ble_eq_true rfl)) dL_parts_120 ⟨Nat.le_of_ble_eq_true rfl, Nat.le_of_ble_eq_true rfl⟩) hS (fun H locs hP hS => ?_)
            refine lv_iload hx hb dL_parts_123 (lv_at hl 6 rfl) ?_
            refine lv_icmp_ne (tgt := 132) hx hb dL_parts_125 (by decide) (fun g => ?_) (fun g => ?_)
            · rw [if_neg g] at h
              refine lv_iconst (v := (0 : Int32)) hx hb dL_parts_132 (by decide) ?_
              obtain rfl := Option.some.inj h
              exact W.zret (v := (0 : Int32)) hx hb hr rfl (fun t ht hW => ⟨⟨_, (), rfl, rfl, by dsimp only; rw [ht]; exact hP⟩, hS.F ht⟩) hS.2.2 dL_parts_133
            · rw [if_pos g] at h
              refine lv_iconst (v := (1 : Int32)) hx hb dL_parts_128 (by decide) ?_
              refine lv_goto (tgt := 133) hx hb dL_parts_129 (by decide) ?_
              obtain rfl := Option.some.inj h
              exact W.zret (v := (1 : Int32)) hx hb hr rfl (fun t ht hW => ⟨⟨_, (), rfl, rfl, by dsimp only; rw [ht]; exact hP⟩, hS.F ht⟩) hS.2.2 dL_parts_133
        · rw [if_neg g] at h
          refine lv_iconst (v := (0 : Int32)) hx hb dL_parts_111 (by decide) ?_
          obtain rfl := Option.some.inj h
          exact W.zret (v := (0 : Int32)) hx hb hr rfl (fun t ht hW => ⟨⟨_, (), rfl, rfl, by dsimp only; rw [ht]; exact hP⟩, hS.F ht⟩) hS.2.2 dL_parts_112
  have j57 : ∀ (c0_0 : Sg) (y1 : Int32) (y2 : Int32) (y3 : Int32) (y4 : Int32) (y5 : Int32) (y6 : Int32) (t0 : Int32) (H : Heap) (locs : List Loc) (ls : Array Slot), pL_parts_j57  c0_0 y1 y2 y3 y4 y5 y6 t0 = some q → (aW D cI cC cS lo aV c0_0 X) H → va_S (fun q => lo ≤ q) s.heap H locs → lv_has ls 9 [(0, .ref aV), (1, .int y1), (2, .int y2), (3, .int y3), (4, .int y4), (5, .int y5), (6, .int y6)] → W p l e ({ frames := 7, cells := 0, slots := 0, locals := 165 } : Room) s m ([.ref aV, .int i2, .int i3, .int i4] : List Value).toArray below meth c H locs 0 0 (MQ below (va_Qi (fun (r : Int32) (_ : Unit) => r = q.1) (fun _ t => (aW D cI cC cS lo aV q.2 X) t.heap) (fun q => lo ≤ q)) ([.ref aV, .int i2, .int i3, .int i4] : List Value).toArray s 0 0 (fun q => lo ≤ q)) (F0 m 57 ls [.int t0]) := by
    clear h hP hS hl
    intro c0_0 y1 y2 y3 y4 y5 y6 t0 H locs ls h hP hS hl
    unfold pL_parts_j57 at h
    refine lv_istore (lv' := [(7, .int t0), (0, .ref aV), (1, .int y1), (2, .int y2), (3, .int y3), (4, .int y4), (5, .int y5), (6, .int y6)]) hx hb dL_parts_57 hl (by decide) rfl (fun ls hl => ?_)
    refine lv_aload_n hx hb dL_parts_59 rfl (lv_at hl 1 rfl) ?_
    refine lv_iload_n hx hb dL_parts_60 rfl (lv_at hl 2 rfl) ?_
    refine lv_iload_n hx hb dL_parts_61 rfl (lv_at hl 3 rfl) ?_
    refine lv_iload_n hx hb dL_parts_62 rfl (lv_at hl 4 rfl) ?_
    obtain ⟨q8, h7, h⟩ := Option.bind_eq_some_iff.mp h
    refine kciA (va_runV (As := [.int y1, .int y2, .int y3]) (rest := []) ⟨hx, hb, hml, hown, hts⟩ (aX9_part l D cI cC cS lo aV c0_0 (X) y1 y2 y3 h7) (cwV 3 hts gL_parts_X9_part rfl rfl rfl (by decide +kernel) ⟨Nat.le_of_ble_eq_true rfl, Nat.le_of_ble_eq_true rfl⟩) (kpreVA hP hK hN (Nat.le_trans hz hS.1)) rfl rfl hl.1 rfl (lv_room (Nat.le_of_ble_eq_true rfl)) dL_parts_63 ⟨Nat.le_of_ble_eq_true rfl, Nat.le_of_ble_eq_true rfl⟩) hS (fun H locs hP hS => ?_)
    refine lv_iload hx hb dL_parts_66 (lv_at hl 0 rfl) ?_
    refine lv_if_eq (tgt := 78) hx hb dL_parts_68 (by decide) (fun g => ?_) (fun g => ?_)
    · rw [if_pos g] at h
      refine lv_bipush (v := (-4 : Int32)) hx hb dL_parts_78 (by decide) ?_
      exact j80 q8.2 y1 y2 y3 y4 y5 y6 t0 q8.1 (-4 : Int32) _ _ _ h hP hS (lv_sub hl [1, 2, 3, 4, 5, 6, 7, 0] rfl)
    · rw [if_neg g] at h
      refine lv_iload hx hb dL_parts_71 (lv_at hl 7 rfl) ?_
      refine lv_iconst (v := (1 : Int32)) hx hb dL_parts_73 (by decide) ?_
      refine lv_iadd hx hb dL_parts_74 ?_
      refine lv_goto (tgt := 80) hx hb dL_parts_75 (by decide) ?_
      exact j80 q8.2 y1 y2 y3 y4 y5 y6 t0 q8.1 (y6 + (1 : Int32)) _ _ _ h hP hS (lv_sub hl [1, 2, 3, 4, 5, 6, 7, 0] rfl)
  have j56 : ∀ (c0_0 : Sg) (y1 : Int32) (y2 : Int32) (y3 : Int32) (y4 : Int32) (y5 : Int32) (y6 : Int32) (H : Heap) (locs : List Loc) (ls : Array Slot), pL_parts_j56  c0_0 y1 y2 y3 y4 y5 y6 = some q → (aW D cI cC cS lo aV c0_0 X) H → va_S (fun q => lo ≤ q) s.heap H locs → lv_has ls 9 [(0, .ref aV), (1, .int y1), (2, .int y2), (3, .int y3), (4, .int y4), (5, .int y5), (6, .int y6)] → W p l e ({ frames := 7, cells := 0, slots := 0, locals := 165 } : Room) s m ([.ref aV, .int i2, .int i3, .int i4] : List Value).toArray below meth c H locs 0 0 (MQ below (va_Qi (fun (r : Int32) (_ : Unit) => r = q.1) (fun _ t => (aW D cI cC cS lo aV q.2 X) t.heap) (fun q => lo ≤ q)) ([.ref aV, .int i2, .int i3, .int i4] : List Value).toArray s 0 0 (fun q => lo ≤ q)) (F0 m 56 ls []) := by
    clear h hP hS hl
    intro c0_0 y1 y2 y3 y4 y5 y6 H locs ls h hP hS hl
    unfold pL_parts_j56 at h
    refine lv_iconst (v := (0 : Int32)) hx hb dL_parts_56 (by decide) ?_
    exact j57 c0_0 y1 y2 y3 y4 y5 y6 (0 : Int32) _ _ _ h hP hS (lv_sub hl [0, 1, 2, 3, 4, 5, 6] rfl)
  unfold pL_parts at h
  refine lv_aload_n hx hb dL_parts_0 rfl (lv_at hl 0 rfl) ?_
  refine lv_iload_n hx hb dL_parts_1 rfl (lv_at hl 1 rfl) ?_
  refine lv_iconst (v := (2 : Int32)) hx hb dL_parts_2 (by decide) ?_
  obtain ⟨q2, h1, h⟩ := Option.bind_eq_some_iff.mp h
  refine kciA (va_runV (As := [.int i2, .int (2 : Int32)]) (rest := []) ⟨hx, hb, hml, hown, hts⟩ (aX9_group l D cI cC cS lo aV vO0 (X) i2 (2 : Int32) h1) (cwV 2 hts gL_parts_X9_group rfl rfl rfl (by decide +kernel) ⟨Nat.le_of_ble_eq_true rfl, Nat.le_of_ble_eq_true rfl⟩) (kpreVA hP hK hN (Nat.le_trans hz hS.1)) rfl rfl hl.1 rfl (lv_room (Nat.le_of_ble_eq_true rfl)) dL_parts_3 ⟨Nat.le_of_ble_eq_true rfl, Nat.le_of_ble_eq_true rfl⟩) hS (fun H locs hP hS => ?_)
  refine lv_istore (lv' := [(4, .int q2), (0, .ref aV), (1, .int i2), (2, .int i3), (3, .int i4)]) hx hb dL_parts_6 hl (by decide) rfl (fun ls hl => ?_)
  refine lv_aload_n hx hb dL_parts_8 rfl (lv_at hl 1 rfl) ?_
  refine lv_iload_n hx hb dL_parts_9 rfl (lv_at hl 2 rfl) ?_
  refine lv_iconst (v := (4 : Int32)) hx hb dL_parts_10 (by decide) ?_
  obtain ⟨q4, h3, h⟩ := Option.bind_eq_some_iff.mp h
  refine kciA (va_runV (As := [.int i2, .int (4 : Int32)]) (rest := []) ⟨hx, hb, hml, hown, hts⟩ (aX9_group l D cI cC cS lo aV vO0 (X) i2 (4 : Int32) h3) (cwV 2 hts gL_parts_X9_group rfl rfl rfl (by decide +kernel) ⟨Nat.le_of_ble_eq_true rfl, Nat.le_of_ble_eq_true rfl⟩) (kpreVA hP hK hN (Nat.le_trans hz hS.1)) rfl rfl hl.1 rfl (lv_room (Nat.le_of_ble_eq_true rfl)) dL_parts_11 ⟨Nat.le_of_ble_eq_true rfl, Nat.le_of_ble_eq_true rfl⟩) hS (fun H locs hP hS => ?_)
  refine lv_istore (lv' := [(5, .int q4), (4, .int q2), (0, .ref aV), (1, .int i2), (2, .int i3), (3, .int i4)]) hx hb dL_parts_14 hl (by decide) rfl (fun ls hl => ?_)
  refine lv_aload_n hx hb dL_parts_16 rfl (lv_at hl 2 rfl) ?_
  refine lv_iconst (v := (4 : Int32)) hx hb dL_parts_17 (by decide) ?_
  obtain ⟨q6, h5, h⟩ := Option.bind_eq_some_iff.mp h
  refine kciA (va_runV (As := [.int (4 : Int32)]) (rest := []) ⟨hx, hb, hml, hown, hts⟩ (aX9_count l D cI cC cS lo aV vO0 (X) (4 : Int32) h5) (cwV 1 hts gL_parts_X9_count rfl rfl rfl (by decide +kernel) ⟨Nat.le_of_ble_eq_true rfl, Nat.le_of_ble_eq_true rfl⟩) (kpreVA hP hK hN (Nat.le_trans hz hS.1)) rfl rfl hl.1 rfl (lv_room (Nat.le_of_ble_eq_true rfl)) dL_parts_18 ⟨Nat.le_of_ble_eq_true rfl, Nat.le_of_ble_eq_true rfl⟩) hS (fun H locs hP hS => ?_)
  refine lv_istore (lv' := [(6, .int q6), (5, .int q4), (4, .int q2), (0, .ref aV), (1, .int i2), (2, .int i3), (3, .int i4)]) hx hb dL_parts_21 hl (by decide) rfl (fun ls hl => ?_)
  refine lv_iload_n hx hb dL_parts_23 rfl (lv_at hl 5 rfl) ?_
  refine lv_iload hx hb dL_parts_24 (lv_at hl 2 rfl) ?_
  refine lv_icmp_gt (tgt := 56) hx hb dL_parts_26 (by decide) (fun g => ?_) (fun g => ?_)
  · rw [if_pos g] at h
    exact j56 vO0 i2 i3 i4 q2 q4 q6 _ _ _ h hP hS (lv_sub hl [3, 4, 5, 6, 2, 1, 0] rfl)
  · rw [if_neg g] at h
    refine lv_iload_n hx hb dL_parts_29 rfl (lv_at hl 6 rfl) ?_
    refine lv_iload hx hb dL_parts_30 (lv_at hl 1 rfl) ?_
    refine lv_icmp_gt (tgt := 56) hx hb dL_parts_32 (by decide) (fun g => ?_) (fun g => ?_)
    · rw [if_pos g] at h
      exact j56 vO0 i2 i3 i4 q2 q4 q6 _ _ _ h hP hS (lv_sub hl [3, 4, 5, 6, 2, 1, 0] rfl)
    · rw [if_neg g] at h
      refine lv_iload_n hx hb dL_parts_35 rfl (lv_at hl 5 rfl) ?_
      refine lv_iload_n hx hb dL_parts_36 rfl (lv_at hl 6 rfl) ?_
      refine lv_iadd hx hb dL_parts_37 ?_
      refine lv_if_le (tgt := 56) hx hb dL_parts_38 (by decide) (fun g => ?_) (fun g => ?_)
      · rw [if_pos g] at h
        exact j56 vO0 i2 i3 i4 q2 q4 q6 _ _ _ h hP hS (lv_sub hl [3, 4, 5, 6, 2, 1, 0] rfl)
      · rw [if_neg g] at h
        refine lv_iload_n hx hb dL_parts_41 rfl (lv_at hl 5 rfl) ?_
        refine lv_iload_n hx hb dL_parts_42 rfl (lv_at hl 6 rfl) ?_
        refine lv_iadd hx hb dL_parts_43 ?_
        refine lv_iload hx hb dL_parts_44 (lv_at hl 2 rfl) ?_
        refine lv_iload hx hb dL_parts_46 (lv_at hl 1 rfl) ?_
        refine lv_iadd hx hb dL_parts_48 ?_
        refine lv_icmp_ge (tgt := 56) hx hb dL_parts_49 (by decide) (fun g => ?_) (fun g => ?_)
        · rw [if_pos g] at h
          exact j56 vO0 i2 i3 i4 q2 q4 q6 _ _ _ h hP hS (lv_sub hl [3, 4, 5, 6, 2, 1, 0] rfl)
        · rw [if_neg g] at h
          refine lv_iconst (v := (1 : Int32)) hx hb dL_parts_52 (by decide) ?_
          refine lv_goto (tgt := 57) hx hb dL_parts_53 (by decide) ?_
          exact j57 vO0 i2 i3 i4 q2 q4 q6 (1 : Int32) _ _ _ h hP hS (lv_sub hl [3, 4, 5, 6, 2, 1, 0] rfl)
set_option maxHeartbeats 8000000 in
set_option maxRecDepth 100000 in
theorem kL_turns (l : Launch) (D : va_G) (cI cC cS : ClassId) (lo aV : Nat) (vO0 : Sg) (X : va_W) {q : Int32 × Sg} (h : pL_turns vO0 = some q) : kAc l yL_turns wsL_turns ({ frames := 7, cells := 0, slots := 0, locals := 160 } : Room) D (kTy cI cC cS) lo [.ref aV] (aW D cI cC cS lo aV vO0 X) (aW D cI cC cS lo aV q.2 X) q.1 0 0 := by
  refine Met.ofW (cc := cL_turns) (maxL := 8) (ret := (some .boolean)) (by decide) rfl ?_
  intro p e s m args below meth c s₁ B hml hv
  obtain ⟨rfl, hP, hK, hN, hz⟩ := hv
  have hx := B.exec
  have hb := B.bytes
  have hr := B.returns
  have hts := atoms_spec (ws := wsL_turns) B.pre
  have hown : s.vm.findClass RL = some m.cls := findClass_of_methodNamed B.named
  have hlocks := B.notSynchronized
  have hS : va_S (fun q => lo ≤ q) s.heap s.heap [] := va_S.rf
  have hl := lv_entry ([.ref aV]) (n := 8) (Nat.le_of_ble_eq_true rfl)
  rw [lg_entry_eq]
  generalize (lg_sl ([.ref aV]) ++ List.replicate (8 - (lg_sl ([.ref aV])).length) Slot.unset).toArray = ls at hl ⊢
  have hl : lv_has ls 8 [(0, .ref aV)] := hl
  have L39 : ∀ (nL39 : Nat) (c0_0 : Sg) (y1 : Int32) (y2 : Int32) (y3 : Int32) (y4 : Int32) (y5 : Int32) (y6 : Int32) (y7 : Int32) (H : Heap) (locs : List Loc) (ls : Array Slot), pL_turns_L39  nL39 c0_0 y1 y2 y3 y4 y5 y6 y7 = some q → (aW D cI cC cS lo aV c0_0 X) H → va_S (fun q => lo ≤ q) s.heap H locs → lv_has ls 8 [(0, .ref aV), (1, .int y1), (2, .int y2), (3, .int y3), (4, .int y4), (5, .int y5), (6, .int y6), (7, .int y7)] → W p l e ({ frames := 7, cells := 0, slots := 0, locals := 160 } : Room) s m ([.ref aV] : List Value).toArray below meth c H locs 0 0 (MQ below (va_Qi (fun (r : Int32) (_ : Unit) => r = q.1) (fun _ t => (aW D cI cC cS lo aV q.2 X) t.heap) (fun q => lo ≤ q)) ([.ref aV] : List Value).toArray s 0 0 (fun q => lo ≤ q)) (F0 m 39 ls []) := by
    clear h hP hS hl
    intro nL39
    induction nL39 with
    | zero => intro c0_0 y1 y2 y3 y4 y5 y6 y7 H locs ls h; have h : (none : Option (Int32 × Sg)) = some q := h; cases h
    | succ nL39 ihL39 =>
      have j73 : ∀ (c0_0 : Sg) (y1 : Int32) (y2 : Int32) (y3 : Int32) (y4 : Int32) (y5 : Int32) (y7 : Int32) (t0 : Int32) (t1 : Int32) (H : Heap) (locs : List Loc) (ls : Array Slot), pL_turns_j73 (pL_turns_L39  nL39) c0_0 y1 y2 y3 y4 y5 y7 t0 t1 = some q → (aW D cI cC cS lo aV c0_0 X) H → va_S (fun q => lo ≤ q) s.heap H locs → lv_has ls 8 [(0, .ref aV), (1, .int y1), (2, .int y2), (3, .int y3), (4, .int y4), (5, .int y5), (7, .int y7)] → W p l e ({ frames := 7, cells := 0, slots := 0, locals := 160 } : Room) s m ([.ref aV] : List Value).toArray below meth c H locs 0 0 (MQ below (va_Qi (fun (r : Int32) (_ : Unit) => r = q.1) (fun _ t => (aW D cI cC cS lo aV q.2 X) t.heap) (fun q => lo ≤ q)) ([.ref aV] : List Value).toArray s 0 0 (fun q => lo ≤ q)) (F0 m 73 ls [.int t1, .int t0]) := by
        skip
        intro c0_0 y1 y2 y3 y4 y5 y7 t0 t1 H locs ls h hP hS hl
        unfold pL_turns_j73 at h
        refine lv_iadd hx hb dL_turns_73 ?_
        refine lv_istore (lv' := [(6, .int (t0 + t1)), (0, .ref aV), (1, .int y1), (2, .int y2), (3, .int y3), (4, .int y4), (5, .int y5), (7, .int y7)]) hx hb dL_turns_74 hl (by decide) rfl (fun ls hl => ?_)
        refine lv_iinc (v := (y7 + (1 : Int32))) (lv' := [(7, .int (y7 + (1 : Int32))), (6, .int (t0 + t1)), (0, .ref aV), (1, .int y1), (2, .int y2), (3, .int y3), (4, .int y4), (5, .int y5)]) hx hb dL_turns_76 hl (k := 7) rfl rfl (by decide) rfl (fun ls hl => ?_)
        refine lv_goto (tgt := 39) hx hb dL_turns_79 (by decide) ?_
        exact ihL39 c0_0 y1 y2 y3 y4 y5 (t0 + t1) (y7 + (1 : Int32)) _ _ _ h hP hS (lv_sub hl [2, 3, 4, 5, 6, 7, 1, 0] rfl)
      intro c0_0 y1 y2 y3 y4 y5 y6 y7 H locs ls h hP hS hl
      have h : pL_turns_bL39 (pL_turns_L39  nL39) c0_0 y1 y2 y3 y4 y5 y6 y7 = some q := h
      unfold pL_turns_bL39 at h
      refine lv_iload hx hb dL_turns_39 (lv_at hl 7 rfl) ?_
      refine lv_aload_n hx hb dL_turns_41 rfl (lv_at hl 0 rfl) ?_
      refine lv_iconst (v := (4 : Int32)) hx hb dL_turns_42 (by decide) ?_
      obtain ⟨q12, h11, h⟩ := Option.bind_eq_some_iff.mp h
      refine kciA (va_runV (As := [.int (4 : Int32)]) (rest := [.int y7]) ⟨hx, hb, hml, hown, hts⟩ (aX9_count l D cI cC cS lo aV c0_0 (X) (4 : Int32) h11) (cwV 1 hts gL_turns_X9_count rfl rfl rfl (by decide +kernel) ⟨Nat.le_of_ble_eq_true rfl, Nat.le_of_ble_eq_true rfl⟩) (kpreVA hP hK hN (Nat.le_trans hz hS.1)) rfl rfl hl.1 rfl (lv_room (Nat.le_of_ble_eq_true rfl)) dL_turns_43 ⟨Nat.le_of_ble_eq_true rfl, Nat.le_of_ble_eq_true rfl⟩) hS (fun H locs hP hS => ?_)
      refine lv_icmp_ge (tgt := 82) hx hb dL_turns_46 (by decide) (fun g => ?_) (fun g => ?_)
      · rw [if_pos g] at h
        refine lv_iload hx hb dL_turns_82 (lv_at hl 5 rfl) ?_
        refine lv_iload hx hb dL_turns_84 (lv_at hl 6 rfl) ?_
        refine lv_icmp_ne (tgt := 132) hx hb dL_turns_86 (by decide) (fun g => ?_) (fun g => ?_)
        · rw [if_neg g] at h
          refine lv_iconst (v := (0 : Int32)) hx hb dL_turns_132 (by decide) ?_
          obtain rfl := Option.some.inj h
          exact W.zret (v := (0 : Int32)) hx hb hr rfl (fun t ht hW => ⟨⟨_, (), rfl, rfl, by dsimp only; rw [ht]; exact hP⟩, hS.F ht⟩) hS.2.2 dL_turns_133
        · rw [if_pos g] at h
          refine lv_aload_n hx hb dL_turns_89 rfl (lv_at hl 0 rfl) ?_
          refine lv_iconst (v := (2 : Int32)) hx hb dL_turns_90 (by decide) ?_
          obtain ⟨q14, h13, h⟩ := Option.bind_eq_some_iff.mp h
          refine kciA (va_runV (As := [.int (2 : Int32)]) (rest := []) ⟨hx, hb, hml, hown, hts⟩ (aX9_count l D cI cC cS lo aV c0_0 (X) (2 : Int32) h13) (cwV 1 hts gL_turns_X9_count rfl rfl rfl (by decide +kernel) ⟨Nat.le_of_ble_eq_true rfl, Nat.le_of_ble_eq_true rfl⟩) (kpreVA hP hK hN (Nat.le_trans hz hS.1)) rfl rfl hl.1 rfl (lv_room (Nat.le_of_ble_eq_true rfl)) dL_turns_91 ⟨Nat.le_of_ble_eq_true rfl, Nat.le_of_ble_eq_true rfl⟩) hS (fun H locs hP hS => ?_)
          refine lv_iload_n hx hb dL_turns_94 rfl (lv_at hl 2 rfl) ?_
          refine lv_icmp_ne (tgt := 132) hx hb dL_turns_95 (by decide) (fun g => ?_) (fun g => ?_)
          · rw [if_neg g] at h
            refine lv_iconst (v := (0 : Int32)) hx hb dL_turns_132 (by decide) ?_
            obtain rfl := Option.some.inj h
            exact W.zret (v := (0 : Int32)) hx hb hr rfl (fun t ht hW => ⟨⟨_, (), rfl, rfl, by dsimp only; rw [ht]; exact hP⟩, hS.F ht⟩) hS.2.2 dL_turns_133
          · rw [if_pos g] at h
            refine lv_aload_n hx hb dL_turns_98 rfl (lv_at hl 0 rfl) ?_
            refine lv_iconst (v := (3 : Int32)) hx hb dL_turns_99 (by decide) ?_
            obtain ⟨q16, h15, h⟩ := Option.bind_eq_some_iff.mp h
            refine kciA (va_runV (As := [.int (3 : Int32)]) (rest := []) ⟨hx, hb, hml, hown, hts⟩ (aX9_count l D cI cC cS lo aV c0_0 (X) (3 : Int32) h15) (cwV 1 hts gL_turns_X9_count rfl rfl rfl (by decide +kernel) ⟨Nat.le_of_ble_eq_true rfl, Nat.le_of_ble_eq_true rfl⟩) (kpreVA hP hK hN (Nat.le_trans hz hS.1)) rfl rfl hl.1 rfl (lv_room (Nat.le_of_ble_eq_true rfl)) dL_turns_100 ⟨Nat.le_of_ble_eq_true rfl, Nat.le_of_ble_eq_true rfl⟩) hS (fun H locs hP hS => ?_)
            refine lv_iload_n hx hb dL_turns_103 rfl (lv_at hl 1 rfl) ?_
            refine lv_icmp_ne (tgt := 132) hx hb dL_turns_104 (by decide) (fun g => ?_) (fun g => ?_)
            · rw [if_neg g] at h
              refine lv_iconst (v := (0 : Int32)) hx hb dL_turns_132 (by decide) ?_
              obtain rfl := Option.some.inj h
              exact W.zret (v := (0 : Int32)) hx hb hr rfl (fun t ht hW => ⟨⟨_, (), rfl, rfl, by dsimp only; rw [ht]; exact hP⟩, hS.F ht⟩) hS.2.2 dL_turns_133
            · rw [if_pos g] at h
              refine lv_aload_n hx hb dL_turns_107 rfl (lv_at hl 0 rfl) ?_
              refine lv_bipush (v := (6 : Int32)) hx hb dL_turns_108 (by decide) ?_
              obtain ⟨q18, h17, h⟩ := Option.bind_eq_some_iff.mp h
              refine kciA (va_runV (As := [.int (6 : Int32)]) (rest := []) ⟨hx, hb, hml, hown, hts⟩ (aX9_count l D cI cC cS lo aV c0_0 (X) (6 : Int32) h17) (cwV 1 hts gL_turns_X9_count rfl rfl rfl (by decide +kernel) ⟨Nat.le_of_ble_eq_true rfl, Nat.le_of_ble_eq_true rfl⟩) (kpreVA hP hK hN (Nat.le_trans hz hS.1)) rfl rfl hl.1 rfl (lv_room (Nat.le_of_ble_eq_true rfl)) dL_turns_110 ⟨Nat.le_of_ble_eq_true rfl, Nat.le_of_ble_eq_true rfl⟩) hS (fun H locs hP hS => ?_)
              refine lv_iload hx hb dL_turns_113 (lv_at hl 4 rfl) ?_
              refine lv_icmp_ne (tgt := 132) hx hb dL_turns_115 (by decide) (fun g => ?_) (fun g => ?_)
              · rw [if_neg g] at h
                refine lv_iconst (v := (0 : Int32)) hx hb dL_turns_132 (by decide) ?_
                obtain rfl := Option.some.inj h
                exact W.zret (v := (0 : Int32)) hx hb hr rfl (fun t ht hW => ⟨⟨_, (), rfl, rfl, by dsimp only; rw [ht]; exact hP⟩, hS.F ht⟩) hS.2.2 dL_turns_133
              · rw [if_pos g] at h
                refine lv_aload_n hx hb dL_turns_118 rfl (lv_at hl 0 rfl) ?_
                refine lv_bipush (v := (7 : Int32)) hx hb dL_turns_119 (by decide) ?_
                obtain ⟨q20, h19, h⟩ := Option.bind_eq_some_iff.mp h
                refine kciA (va_runV (As := [.int (7 : Int32)]) (rest := []) ⟨hx, hb, hml, hown, hts⟩ (aX9_count l D cI cC cS lo aV c0_0 (X) (7 : Int32) h19) (cwV 1 hts gL_turns_X9_count rfl rfl rfl (by decide +kernel) ⟨Nat.le_of_ble_eq_true rfl, Nat.le_of_ble_eq_true rfl⟩) (kpreVA hP hK hN (Nat.le_trans hz hS.1)) rfl rfl hl.1 rfl (lv_room (Nat.le_of_ble_eq_true rfl)) dL_turns_121 ⟨Nat.le_of_ble_eq_true rfl, Nat.le_of_ble_eq_true rfl⟩) hS (fun H locs hP hS => ?_)
                refine lv_iload_n hx hb dL_turns_124 rfl (lv_at hl 3 rfl) ?_
                refine lv_icmp_ne (tgt := 132) hx hb dL_turns_125 (by decide) (fun g => ?_) (fun g => ?_)
                · rw [if_neg g] at h
                  refine lv_iconst (v := (0 : Int32)) hx hb dL_turns_132 (by decide) ?_
                  obtain rfl := Option.some.inj h
                  exact W.zret (v := (0 : Int32)) hx hb hr rfl (fun t ht hW => ⟨⟨_, (), rfl, rfl, by dsimp only; rw [ht]; exact hP⟩, hS.F ht⟩) hS.2.2 dL_turns_133
                · rw [if_pos g] at h
                  refine lv_iconst (v := (1 : Int32)) hx hb dL_turns_128 (by decide) ?_
                  refine lv_goto (tgt := 133) hx hb dL_turns_129 (by decide) ?_
                  obtain rfl := Option.some.inj h
                  exact W.zret (v := (1 : Int32)) hx hb hr rfl (fun t ht hW => ⟨⟨_, (), rfl, rfl, by dsimp only; rw [ht]; exact hP⟩, hS.F ht⟩) hS.2.2 dL_turns_133
      · rw [if_neg g] at h
        refine lv_iload hx hb dL_turns_49 (lv_at hl 6 rfl) ?_
        refine lv_aload_n hx hb dL_turns_51 rfl (lv_at hl 0 rfl) ?_
        refine lv_iload hx hb dL_turns_52 (lv_at hl 7 rfl) ?_
        refine lv_iconst (v := (2 : Int32)) hx hb dL_turns_54 (by decide) ?_
        obtain ⟨q22, h21, h⟩ := Option.bind_eq_some_iff.mp h
        refine kciA (va_runV (As := [.int y7, .int (2 : Int32)]) (rest := [.int y6]) ⟨hx, hb, hml, hown, hts⟩ (aX9_group l D cI cC cS lo aV c0_0 (X) y7 (2 : Int32) h21) (cwV 2 hts gL_turns_X9_group rfl rfl rfl (by decide +kernel) ⟨Nat.le_of_ble_eq_true rfl, Nat.le_of_ble_eq_true rfl⟩) (kpreVA hP hK hN (Nat.le_trans hz hS.1)) rfl rfl hl.1 rfl (lv_room (Nat.le_of_ble_eq_true rfl)) dL_turns_55 ⟨Nat.le_of_ble_eq_true rfl, Nat.le_of_ble_eq_true rfl⟩) hS (fun H locs hP hS => ?_)
        refine lv_aload_n hx hb dL_turns_58 rfl (lv_at hl 0 rfl) ?_
        refine lv_iload hx hb dL_turns_59 (lv_at hl 7 rfl) ?_
        refine lv_iconst (v := (4 : Int32)) hx hb dL_turns_61 (by decide) ?_
        obtain ⟨q24, h23, h⟩ := Option.bind_eq_some_iff.mp h
        refine kciA (va_runV (As := [.int y7, .int (4 : Int32)]) (rest := [.int q22, .int y6]) ⟨hx, hb, hml, hown, hts⟩ (aX9_group l D cI cC cS lo aV c0_0 (X) y7 (4 : Int32) h23) (cwV 2 hts gL_turns_X9_group rfl rfl rfl (by decide +kernel) ⟨Nat.le_of_ble_eq_true rfl, Nat.le_of_ble_eq_true rfl⟩) (kpreVA hP hK hN (Nat.le_trans hz hS.1)) rfl rfl hl.1 rfl (lv_room (Nat.le_of_ble_eq_true rfl)) dL_turns_62 ⟨Nat.le_of_ble_eq_true rfl, Nat.le_of_ble_eq_true rfl⟩) hS (fun H locs hP hS => ?_)
        refine lv_icmp_ne (tgt := 72) hx hb dL_turns_65 (by decide) (fun g => ?_) (fun g => ?_)
        · rw [if_neg g] at h
          refine lv_iconst (v := (0 : Int32)) hx hb dL_turns_72 (by decide) ?_
          exact j73 c0_0 y1 y2 y3 y4 y5 y7 y6 (0 : Int32) _ _ _ h hP hS (lv_sub hl [0, 1, 2, 3, 4, 5, 7] rfl)
        · rw [if_pos g] at h
          refine lv_iconst (v := (1 : Int32)) hx hb dL_turns_68 (by decide) ?_
          refine lv_goto (tgt := 73) hx hb dL_turns_69 (by decide) ?_
          exact j73 c0_0 y1 y2 y3 y4 y5 y7 y6 (1 : Int32) _ _ _ h hP hS (lv_sub hl [0, 1, 2, 3, 4, 5, 7] rfl)
  unfold pL_turns at h
  refine lv_aload_n hx hb dL_turns_0 rfl (lv_at hl 0 rfl) ?_
  refine lv_iconst (v := (2 : Int32)) hx hb dL_turns_1 (by decide) ?_
  obtain ⟨q2, h1, h⟩ := Option.bind_eq_some_iff.mp h
  refine kciA (va_runV (As := [.int (2 : Int32)]) (rest := []) ⟨hx, hb, hml, hown, hts⟩ (aX9_count l D cI cC cS lo aV vO0 (X) (2 : Int32) h1) (cwV 1 hts gL_turns_X9_count rfl rfl rfl (by decide +kernel) ⟨Nat.le_of_ble_eq_true rfl, Nat.le_of_ble_eq_true rfl⟩) (kpreVA hP hK hN (Nat.le_trans hz hS.1)) rfl rfl hl.1 rfl (lv_room (Nat.le_of_ble_eq_true rfl)) dL_turns_2 ⟨Nat.le_of_ble_eq_true rfl, Nat.le_of_ble_eq_true rfl⟩) hS (fun H locs hP hS => ?_)
  refine lv_istore_n (lv' := [(1, .int q2), (0, .ref aV)]) hx hb dL_turns_5 rfl hl (by decide) rfl (fun ls hl => ?_)
  refine lv_aload_n hx hb dL_turns_6 rfl (lv_at hl 1 rfl) ?_
  refine lv_iconst (v := (3 : Int32)) hx hb dL_turns_7 (by decide) ?_
  obtain ⟨q4, h3, h⟩ := Option.bind_eq_some_iff.mp h
  refine kciA (va_runV (As := [.int (3 : Int32)]) (rest := []) ⟨hx, hb, hml, hown, hts⟩ (aX9_count l D cI cC cS lo aV vO0 (X) (3 : Int32) h3) (cwV 1 hts gL_turns_X9_count rfl rfl rfl (by decide +kernel) ⟨Nat.le_of_ble_eq_true rfl, Nat.le_of_ble_eq_true rfl⟩) (kpreVA hP hK hN (Nat.le_trans hz hS.1)) rfl rfl hl.1 rfl (lv_room (Nat.le_of_ble_eq_true rfl)) dL_turns_8 ⟨Nat.le_of_ble_eq_true rfl, Nat.le_of_ble_eq_true rfl⟩) hS (fun H locs hP hS => ?_)
  refine lv_istore_n (lv' := [(2, .int q4), (1, .int q2), (0, .ref aV)]) hx hb dL_turns_11 rfl hl (by decide) rfl (fun ls hl => ?_)
  refine lv_aload_n hx hb dL_turns_12 rfl (lv_at hl 2 rfl) ?_
  refine lv_bipush (v := (6 : Int32)) hx hb dL_turns_13 (by decide) ?_
  obtain ⟨q6, h5, h⟩ := Option.bind_eq_some_iff.mp h
  refine kciA (va_runV (As := [.int (6 : Int32)]) (rest := []) ⟨hx, hb, hml, hown, hts⟩ (aX9_count l D cI cC cS lo aV vO0 (X) (6 : Int32) h5) (cwV 1 hts gL_turns_X9_count rfl rfl rfl (by decide +kernel) ⟨Nat.le_of_ble_eq_true rfl, Nat.le_of_ble_eq_true rfl⟩) (kpreVA hP hK hN (Nat.le_trans hz hS.1)) rfl rfl hl.1 rfl (lv_room (Nat.le_of_ble_eq_true rfl)) dL_turns_15 ⟨Nat.le_of_ble_eq_true rfl, Nat.le_of_ble_eq_true rfl⟩) hS (fun H locs hP hS => ?_)
  refine lv_istore_n (lv' := [(3, .int q6), (2, .int q4), (1, .int q2), (0, .ref aV)]) hx hb dL_turns_18 rfl hl (by decide) rfl (fun ls hl => ?_)
  refine lv_aload_n hx hb dL_turns_19 rfl (lv_at hl 3 rfl) ?_
  refine lv_bipush (v := (7 : Int32)) hx hb dL_turns_20 (by decide) ?_
  obtain ⟨q8, h7, h⟩ := Option.bind_eq_some_iff.mp h
  refine kciA (va_runV (As := [.int (7 : Int32)]) (rest := []) ⟨hx, hb, hml, hown, hts⟩ (aX9_count l D cI cC cS lo aV vO0 (X) (7 : Int32) h7) (cwV 1 hts gL_turns_X9_count rfl rfl rfl (by decide +kernel) ⟨Nat.le_of_ble_eq_true rfl, Nat.le_of_ble_eq_true rfl⟩) (kpreVA hP hK hN (Nat.le_trans hz hS.1)) rfl rfl hl.1 rfl (lv_room (Nat.le_of_ble_eq_true rfl)) dL_turns_22 ⟨Nat.le_of_ble_eq_true rfl, Nat.le_of_ble_eq_true rfl⟩) hS (fun H locs hP hS => ?_)
  refine lv_istore (lv' := [(4, .int q8), (3, .int q6), (2, .int q4), (1, .int q2), (0, .ref aV)]) hx hb dL_turns_25 hl (by decide) rfl (fun ls hl => ?_)
  refine lv_aload_n hx hb dL_turns_27 rfl (lv_at hl 4 rfl) ?_
  obtain ⟨q10, h9, h⟩ := Option.bind_eq_some_iff.mp h
  refine kciA (va_runV (As := []) (rest := []) ⟨hx, hb, hml, hown, hts⟩ (aX9_exchange l D cI cC cS lo aV vO0 (X) h9) (cwV 0 hts gL_turns_X9_exchange rfl rfl rfl (by decide +kernel) ⟨Nat.le_of_ble_eq_true rfl, Nat.le_of_ble_eq_true rfl⟩) (kpreVA hP hK hN (Nat.le_trans hz hS.1)) rfl rfl hl.1 rfl (lv_room (Nat.le_of_ble_eq_true rfl)) dL_turns_28 ⟨Nat.le_of_ble_eq_true rfl, Nat.le_of_ble_eq_true rfl⟩) hS (fun H locs hP hS => ?_)
  refine lv_istore (lv' := [(5, .int q10.1), (4, .int q8), (3, .int q6), (2, .int q4), (1, .int q2), (0, .ref aV)]) hx hb dL_turns_31 hl (by decide) rfl (fun ls hl => ?_)
  refine lv_iconst (v := (0 : Int32)) hx hb dL_turns_33 (by decide) ?_
  refine lv_istore (lv' := [(6, .int (0 : Int32)), (5, .int q10.1), (4, .int q8), (3, .int q6), (2, .int q4), (1, .int q2), (0, .ref aV)]) hx hb dL_turns_34 hl (by decide) rfl (fun ls hl => ?_)
  refine lv_iconst (v := (0 : Int32)) hx hb dL_turns_36 (by decide) ?_
  refine lv_istore (lv' := [(7, .int (0 : Int32)), (6, .int (0 : Int32)), (5, .int q10.1), (4, .int q8), (3, .int q6), (2, .int q4), (1, .int q2), (0, .ref aV)]) hx hb dL_turns_37 hl (by decide) rfl (fun ls hl => ?_)
  exact L39 4000 q10.2 q2 q4 q6 q8 q10.1 (0 : Int32) (0 : Int32) _ _ _ h hP hS (lv_sub hl [7, 6, 5, 4, 3, 2, 1, 0] rfl)
set_option maxHeartbeats 8000000 in
set_option maxRecDepth 100000 in
theorem kL_errors (l : Launch) (D : va_G) (cI cC cS : ClassId) (lo aV : Nat) (vO0 : Sg) (X : va_W) {q : Int32 × Sg} (h : pL_errors vO0 = some q) : kAc l yL_errors wsL_errors ({ frames := 7, cells := 0, slots := 0, locals := 166 } : Room) D (kTy cI cC cS) lo [.ref aV] (aW D cI cC cS lo aV vO0 X) (aW D cI cC cS lo aV q.2 X) q.1 0 0 := by
  refine Met.ofW (cc := cL_errors) (maxL := 2) (ret := (some .boolean)) (by decide) rfl ?_
  intro p e s m args below meth c s₁ B hml hv
  obtain ⟨rfl, hP, hK, hN, hz⟩ := hv
  have hx := B.exec
  have hb := B.bytes
  have hr := B.returns
  have hts := atoms_spec (ws := wsL_errors) B.pre
  have hown : s.vm.findClass RL = some m.cls := findClass_of_methodNamed B.named
  have hlocks := B.notSynchronized
  have hS : va_S (fun q => lo ≤ q) s.heap s.heap [] := va_S.rf
  have hl := lv_entry ([.ref aV]) (n := 2) (Nat.le_of_ble_eq_true rfl)
  rw [lg_entry_eq]
  generalize (lg_sl ([.ref aV]) ++ List.replicate (2 - (lg_sl ([.ref aV])).length) Slot.unset).toArray = ls at hl ⊢
  have hl : lv_has ls 2 [(0, .ref aV)] := hl
  have j138 : ∀ (c0_0 : Sg) (H : Heap) (locs : List Loc) (ls : Array Slot), pL_errors_j138  c0_0 = some q → (aW D cI cC cS lo aV c0_0 X) H → va_S (fun q => lo ≤ q) s.heap H locs → lv_has ls 2 [(0, .ref aV)] → W p l e ({ frames := 7, cells := 0, slots := 0, locals := 166 } : Room) s m ([.ref aV] : List Value).toArray below meth c H locs 0 0 (MQ below (va_Qi (fun (r : Int32) (_ : Unit) => r = q.1) (fun _ t => (aW D cI cC cS lo aV q.2 X) t.heap) (fun q => lo ≤ q)) ([.ref aV] : List Value).toArray s 0 0 (fun q => lo ≤ q)) (F0 m 138 ls []) := by
    clear h hP hS hl
    intro c0_0 H locs ls h hP hS hl
    unfold pL_errors_j138 at h
    refine lv_aload_n hx hb dL_errors_138 rfl (lv_at hl 0 rfl) ?_
    refine lv_iconst (v := (2 : Int32)) hx hb dL_errors_139 (by decide) ?_
    refine lv_bipush (v := (40 : Int32)) hx hb dL_errors_140 (by decide) ?_
    obtain ⟨q10, h9, h⟩ := Option.bind_eq_some_iff.mp h
    refine kciA (va_runV (As := [.int (2 : Int32), .int (40 : Int32)]) (rest := []) ⟨hx, hb, hml, hown, hts⟩ (aX9_setWidth l D cI cC cS lo aV c0_0 (X) (2 : Int32) (40 : Int32) h9) (cwV 2 hts gL_errors_X9_setWidth rfl rfl rfl (by decide +kernel) ⟨Nat.le_of_ble_eq_true rfl, Nat.le_of_ble_eq_true rfl⟩) (kpreVA hP hK hN (Nat.le_trans hz hS.1)) rfl rfl hl.1 rfl (lv_room (Nat.le_of_ble_eq_true rfl)) dL_errors_142 ⟨Nat.le_of_ble_eq_true rfl, Nat.le_of_ble_eq_true rfl⟩) hS (fun H locs hP hS => ?_)
    refine lv_iconst (v := (-1 : Int32)) hx hb dL_errors_145 (by decide) ?_
    refine lv_icmp_ne (tgt := 201) hx hb dL_errors_146 (by decide) (fun g => ?_) (fun g => ?_)
    · rw [if_neg g] at h
      refine lv_iconst (v := (0 : Int32)) hx hb dL_errors_201 (by decide) ?_
      obtain rfl := Option.some.inj h
      exact W.zret (v := (0 : Int32)) hx hb hr rfl (fun t ht hW => ⟨⟨_, (), rfl, rfl, by dsimp only; rw [ht]; exact hP⟩, hS.F ht⟩) hS.2.2 dL_errors_202
    · rw [if_pos g] at h
      refine lv_aload_n hx hb dL_errors_149 rfl (lv_at hl 0 rfl) ?_
      refine lv_iconst (v := (0 : Int32)) hx hb dL_errors_150 (by decide) ?_
      refine lv_bipush (v := (9 : Int32)) hx hb dL_errors_151 (by decide) ?_
      obtain ⟨q12, h11, h⟩ := Option.bind_eq_some_iff.mp h
      refine kciA (va_runV (As := [.int (0 : Int32), .int (9 : Int32)]) (rest := []) ⟨hx, hb, hml, hown, hts⟩ (aX9_setWidth l D cI cC cS lo aV q10.2 (X) (0 : Int32) (9 : Int32) h11) (cwV 2 hts gL_errors_X9_setWidth rfl rfl rfl (by decide +kernel) ⟨Nat.le_of_ble_eq_true rfl, Nat.le_of_ble_eq_true rfl⟩) (kpreVA hP hK hN (Nat.le_trans hz hS.1)) rfl rfl hl.1 rfl (lv_room (Nat.le_of_ble_eq_true rfl)) dL_errors_153 ⟨Nat.le_of_ble_eq_true rfl, Nat.le_of_ble_eq_true rfl⟩) hS (fun H locs hP hS => ?_)
      refine lv_bipush (v := (-2 : Int32)) hx hb dL_errors_156 (by decide) ?_
      refine lv_icmp_ne (tgt := 201) hx hb dL_errors_158 (by decide) (fun g => ?_) (fun g => ?_)
      · rw [if_neg g] at h
        refine lv_iconst (v := (0 : Int32)) hx hb dL_errors_201 (by decide) ?_
        obtain rfl := Option.some.inj h
        exact W.zret (v := (0 : Int32)) hx hb hr rfl (fun t ht hW => ⟨⟨_, (), rfl, rfl, by dsimp only; rw [ht]; exact hP⟩, hS.F ht⟩) hS.2.2 dL_errors_202
      · rw [if_pos g] at h
        refine lv_aload_n hx hb dL_errors_161 rfl (lv_at hl 0 rfl) ?_
        refine lv_iconst (v := (0 : Int32)) hx hb dL_errors_162 (by decide) ?_
        refine lv_sipush (v := (201 : Int32)) hx hb dL_errors_163 (by decide) ?_
        obtain ⟨q14, h13, h⟩ := Option.bind_eq_some_iff.mp h
        refine kciA (va_runV (As := [.int (0 : Int32), .int (201 : Int32)]) (rest := []) ⟨hx, hb, hml, hown, hts⟩ (aX9_setWidth l D cI cC cS lo aV q12.2 (X) (0 : Int32) (201 : Int32) h13) (cwV 2 hts gL_errors_X9_setWidth rfl rfl rfl (by decide +kernel) ⟨Nat.le_of_ble_eq_true rfl, Nat.le_of_ble_eq_true rfl⟩) (kpreVA hP hK hN (Nat.le_trans hz hS.1)) rfl rfl hl.1 rfl (lv_room (Nat.le_of_ble_eq_true rfl)) dL_errors_166 ⟨Nat.le_of_ble_eq_true rfl, Nat.le_of_ble_eq_true rfl⟩) hS (fun H locs hP hS => ?_)
        refine lv_bipush (v := (-2 : Int32)) hx hb dL_errors_169 (by decide) ?_
        refine lv_icmp_ne (tgt := 201) hx hb dL_errors_171 (by decide) (fun g => ?_) (fun g => ?_)
        · rw [if_neg g] at h
          refine lv_iconst (v := (0 : Int32)) hx hb dL_errors_201 (by decide) ?_
          obtain rfl := Option.some.inj h
          exact W.zret (v := (0 : Int32)) hx hb hr rfl (fun t ht hW => ⟨⟨_, (), rfl, rfl, by dsimp only; rw [ht]; exact hP⟩, hS.F ht⟩) hS.2.2 dL_errors_202
        · rw [if_pos g] at h
          refine lv_aload_n hx hb dL_errors_174 rfl (lv_at hl 0 rfl) ?_
          refine lv_iconst (v := (4 : Int32)) hx hb dL_errors_175 (by decide) ?_
          refine lv_iconst (v := (0 : Int32)) hx hb dL_errors_176 (by decide) ?_
          obtain ⟨q16, h15, h⟩ := Option.bind_eq_some_iff.mp h
          refine kciA (va_runV (As := [.int (4 : Int32), .int (0 : Int32)]) (rest := []) ⟨hx, hb, hml, hown, hts⟩ (aX9_setHeights l D cI cC cS lo aV q14.2 (X) (4 : Int32) (0 : Int32) h15) (cwV 2 hts gL_errors_X9_setHeights rfl rfl rfl (by decide +kernel) ⟨Nat.le_of_ble_eq_true rfl, Nat.le_of_ble_eq_true rfl⟩) (kpreVA hP hK hN (Nat.le_trans hz hS.1)) rfl rfl hl.1 rfl (lv_room (Nat.le_of_ble_eq_true rfl)) dL_errors_177 ⟨Nat.le_of_ble_eq_true rfl, Nat.le_of_ble_eq_true rfl⟩) hS (fun H locs hP hS => ?_)
          refine lv_bipush (v := (-2 : Int32)) hx hb dL_errors_180 (by decide) ?_
          refine lv_icmp_ne (tgt := 201) hx hb dL_errors_182 (by decide) (fun g => ?_) (fun g => ?_)
          · rw [if_neg g] at h
            refine lv_iconst (v := (0 : Int32)) hx hb dL_errors_201 (by decide) ?_
            obtain rfl := Option.some.inj h
            exact W.zret (v := (0 : Int32)) hx hb hr rfl (fun t ht hW => ⟨⟨_, (), rfl, rfl, by dsimp only; rw [ht]; exact hP⟩, hS.F ht⟩) hS.2.2 dL_errors_202
          · rw [if_pos g] at h
            refine lv_aload_n hx hb dL_errors_185 rfl (lv_at hl 0 rfl) ?_
            refine lv_iconst (v := (5 : Int32)) hx hb dL_errors_186 (by decide) ?_
            refine lv_bipush (v := (6 : Int32)) hx hb dL_errors_187 (by decide) ?_
            obtain ⟨q18, h17, h⟩ := Option.bind_eq_some_iff.mp h
            refine kciA (va_runV (As := [.int (5 : Int32), .int (6 : Int32)]) (rest := []) ⟨hx, hb, hml, hown, hts⟩ (aX9_setHeights l D cI cC cS lo aV q16.2 (X) (5 : Int32) (6 : Int32) h17) (cwV 2 hts gL_errors_X9_setHeights rfl rfl rfl (by decide +kernel) ⟨Nat.le_of_ble_eq_true rfl, Nat.le_of_ble_eq_true rfl⟩) (kpreVA hP hK hN (Nat.le_trans hz hS.1)) rfl rfl hl.1 rfl (lv_room (Nat.le_of_ble_eq_true rfl)) dL_errors_189 ⟨Nat.le_of_ble_eq_true rfl, Nat.le_of_ble_eq_true rfl⟩) hS (fun H locs hP hS => ?_)
            refine lv_bipush (v := (-2 : Int32)) hx hb dL_errors_192 (by decide) ?_
            refine lv_icmp_ne (tgt := 201) hx hb dL_errors_194 (by decide) (fun g => ?_) (fun g => ?_)
            · rw [if_neg g] at h
              refine lv_iconst (v := (0 : Int32)) hx hb dL_errors_201 (by decide) ?_
              obtain rfl := Option.some.inj h
              exact W.zret (v := (0 : Int32)) hx hb hr rfl (fun t ht hW => ⟨⟨_, (), rfl, rfl, by dsimp only; rw [ht]; exact hP⟩, hS.F ht⟩) hS.2.2 dL_errors_202
            · rw [if_pos g] at h
              refine lv_iconst (v := (1 : Int32)) hx hb dL_errors_197 (by decide) ?_
              refine lv_goto (tgt := 202) hx hb dL_errors_198 (by decide) ?_
              obtain rfl := Option.some.inj h
              exact W.zret (v := (1 : Int32)) hx hb hr rfl (fun t ht hW => ⟨⟨_, (), rfl, rfl, by dsimp only; rw [ht]; exact hP⟩, hS.F ht⟩) hS.2.2 dL_errors_202
  have j96 : ∀ (c0_0 : Sg) (t0 : Int32) (H : Heap) (locs : List Loc) (ls : Array Slot), pL_errors_j96  c0_0 t0 = some q → (aW D cI cC cS lo aV c0_0 X) H → va_S (fun q => lo ≤ q) s.heap H locs → lv_has ls 2 [(0, .ref aV)] → W p l e ({ frames := 7, cells := 0, slots := 0, locals := 166 } : Room) s m ([.ref aV] : List Value).toArray below meth c H locs 0 0 (MQ below (va_Qi (fun (r : Int32) (_ : Unit) => r = q.1) (fun _ t => (aW D cI cC cS lo aV q.2 X) t.heap) (fun q => lo ≤ q)) ([.ref aV] : List Value).toArray s 0 0 (fun q => lo ≤ q)) (F0 m 96 ls [.int t0]) := by
    clear h hP hS hl
    intro c0_0 t0 H locs ls h hP hS hl
    unfold pL_errors_j96 at h
    refine lv_istore_n (lv' := [(1, .int t0), (0, .ref aV)]) hx hb dL_errors_96 rfl hl (by decide) rfl (fun ls hl => ?_)
    refine lv_iload_n hx hb dL_errors_97 rfl (lv_at hl 0 rfl) ?_
    refine lv_if_eq (tgt := 201) hx hb dL_errors_98 (by decide) (fun g => ?_) (fun g => ?_)
    · rw [if_pos g] at h
      refine lv_iconst (v := (0 : Int32)) hx hb dL_errors_201 (by decide) ?_
      obtain rfl := Option.some.inj h
      exact W.zret (v := (0 : Int32)) hx hb hr rfl (fun t ht hW => ⟨⟨_, (), rfl, rfl, by dsimp only; rw [ht]; exact hP⟩, hS.F ht⟩) hS.2.2 dL_errors_202
    · rw [if_neg g] at h
      refine lv_aload_n hx hb dL_errors_101 rfl (lv_at hl 1 rfl) ?_
      refine lv_aload_n hx hb dL_errors_102 rfl (lv_at hl 1 rfl) ?_
      refine lv_iconst (v := (4 : Int32)) hx hb dL_errors_103 (by decide) ?_
      obtain ⟨q4, h3, h⟩ := Option.bind_eq_some_iff.mp h
      refine kciA (va_runV (As := [.int (4 : Int32)]) (rest := [.ref aV]) ⟨hx, hb, hml, hown, hts⟩ (aX9_count l D cI cC cS lo aV c0_0 (X) (4 : Int32) h3) (cwV 1 hts gL_errors_X9_count rfl rfl rfl (by decide +kernel) ⟨Nat.le_of_ble_eq_true rfl, Nat.le_of_ble_eq_true rfl⟩) (kpreVA hP hK hN (Nat.le_trans hz hS.1)) rfl rfl hl.1 rfl (lv_room (Nat.le_of_ble_eq_true rfl)) dL_errors_104 ⟨Nat.le_of_ble_eq_true rfl, Nat.le_of_ble_eq_true rfl⟩) hS (fun H locs hP hS => ?_)
      obtain ⟨q6, h5, h⟩ := Option.bind_eq_some_iff.mp h
      refine kciA (va_runV (As := [.int q4]) (rest := []) ⟨hx, hb, hml, hown, hts⟩ (aX9_link l D cI cC cS lo aV c0_0 (X) q4 h5) (cwV 1 hts gL_errors_X9_link rfl rfl rfl (by decide +kernel) ⟨Nat.le_of_ble_eq_true rfl, Nat.le_of_ble_eq_true rfl⟩) (kpreVA hP hK hN (Nat.le_trans hz hS.1)) rfl rfl hl.1 rfl (lv_room (Nat.le_of_ble_eq_true rfl)) dL_errors_107 ⟨Nat.le_of_ble_eq_true rfl, Nat.le_of_ble_eq_true rfl⟩) hS (fun H locs hP hS => ?_)
      refine lv_iconst (v := (-1 : Int32)) hx hb dL_errors_110 (by decide) ?_
      refine lv_icmp_ne (tgt := 201) hx hb dL_errors_111 (by decide) (fun g => ?_) (fun g => ?_)
      · rw [if_neg g] at h
        refine lv_iconst (v := (0 : Int32)) hx hb dL_errors_201 (by decide) ?_
        obtain rfl := Option.some.inj h
        exact W.zret (v := (0 : Int32)) hx hb hr rfl (fun t ht hW => ⟨⟨_, (), rfl, rfl, by dsimp only; rw [ht]; exact hP⟩, hS.F ht⟩) hS.2.2 dL_errors_202
      · rw [if_pos g] at h
        refine lv_aload_n hx hb dL_errors_114 rfl (lv_at hl 1 rfl) ?_
        refine lv_iconst (v := (4 : Int32)) hx hb dL_errors_115 (by decide) ?_
        obtain ⟨q8, h7, h⟩ := Option.bind_eq_some_iff.mp h
        refine kciA (va_runV (As := [.int (4 : Int32)]) (rest := []) ⟨hx, hb, hml, hown, hts⟩ (aX9_count l D cI cC cS lo aV q6.2 (X) (4 : Int32) h7) (cwV 1 hts gL_errors_X9_count rfl rfl rfl (by decide +kernel) ⟨Nat.le_of_ble_eq_true rfl, Nat.le_of_ble_eq_true rfl⟩) (kpreVA hP hK hN (Nat.le_trans hz hS.1)) rfl rfl hl.1 rfl (lv_room (Nat.le_of_ble_eq_true rfl)) dL_errors_116 ⟨Nat.le_of_ble_eq_true rfl, Nat.le_of_ble_eq_true rfl⟩) hS (fun H locs hP hS => ?_)
        refine lv_if_eq (tgt := 138) hx hb dL_errors_119 (by decide) (fun g => ?_) (fun g => ?_)
        · rw [if_pos g] at h
          exact j138 q6.2 _ _ _ h hP hS (lv_sub hl [1] rfl)
        · rw [if_neg g] at h
          refine lv_aload_n hx hb dL_errors_122 rfl (lv_at hl 1 rfl) ?_
          refine lv_aload_n hx hb dL_errors_123 rfl (lv_at hl 1 rfl) ?_
          refine lv_iconst (v := (4 : Int32)) hx hb dL_errors_124 (by decide) ?_
          obtain ⟨q20, h19, h⟩ := Option.bind_eq_some_iff.mp h
          refine kciA (va_runV (As := [.int (4 : Int32)]) (rest := [.ref aV]) ⟨hx, hb, hml, hown, hts⟩ (aX9_count l D cI cC cS lo aV q6.2 (X) (4 : Int32) h19) (cwV 1 hts gL_errors_X9_count rfl rfl rfl (by decide +kernel) ⟨Nat.le_of_ble_eq_true rfl, Nat.le_of_ble_eq_true rfl⟩) (kpreVA hP hK hN (Nat.le_trans hz hS.1)) rfl rfl hl.1 rfl (lv_room (Nat.le_of_ble_eq_true rfl)) dL_errors_125 ⟨Nat.le_of_ble_eq_true rfl, Nat.le_of_ble_eq_true rfl⟩) hS (fun H locs hP hS => ?_)
          refine lv_iconst (v := (1 : Int32)) hx hb dL_errors_128 (by decide) ?_
          refine lv_isub hx hb dL_errors_129 ?_
          obtain ⟨q22, h21, h⟩ := Option.bind_eq_some_iff.mp h
          refine kciA (va_runV (As := [.int (q20 - (1 : Int32))]) (rest := []) ⟨hx, hb, hml, hown, hts⟩ (aX9_link l D cI cC cS lo aV q6.2 (X) (q20 - (1 : Int32)) h21) (cwV 1 hts gL_errors_X9_link rfl rfl rfl (by decide +kernel) ⟨Nat.le_of_ble_eq_true rfl, Nat.le_of_ble_eq_true rfl⟩) (kpreVA hP hK hN (Nat.le_trans hz hS.1)) rfl rfl hl.1 rfl (lv_room (Nat.le_of_ble_eq_true rfl)) dL_errors_130 ⟨Nat.le_of_ble_eq_true rfl, Nat.le_of_ble_eq_true rfl⟩) hS (fun H locs hP hS => ?_)
          refine lv_bipush (v := (-4 : Int32)) hx hb dL_errors_133 (by decide) ?_
          refine lv_icmp_ne (tgt := 201) hx hb dL_errors_135 (by decide) (fun g => ?_) (fun g => ?_)
          · rw [if_neg g] at h
            refine lv_iconst (v := (0 : Int32)) hx hb dL_errors_201 (by decide) ?_
            obtain rfl := Option.some.inj h
            exact W.zret (v := (0 : Int32)) hx hb hr rfl (fun t ht hW => ⟨⟨_, (), rfl, rfl, by dsimp only; rw [ht]; exact hP⟩, hS.F ht⟩) hS.2.2 dL_errors_202
          · rw [if_pos g] at h
            exact j138 q22.2 _ _ _ h hP hS (lv_sub hl [1] rfl)
  have j95 : ∀ (c0_0 : Sg) (H : Heap) (locs : List Loc) (ls : Array Slot), pL_errors_j95  c0_0 = some q → (aW D cI cC cS lo aV c0_0 X) H → va_S (fun q => lo ≤ q) s.heap H locs → lv_has ls 2 [(0, .ref aV)] → W p l e ({ frames := 7, cells := 0, slots := 0, locals := 166 } : Room) s m ([.ref aV] : List Value).toArray below meth c H locs 0 0 (MQ below (va_Qi (fun (r : Int32) (_ : Unit) => r = q.1) (fun _ t => (aW D cI cC cS lo aV q.2 X) t.heap) (fun q => lo ≤ q)) ([.ref aV] : List Value).toArray s 0 0 (fun q => lo ≤ q)) (F0 m 95 ls []) := by
    clear h hP hS hl
    intro c0_0 H locs ls h hP hS hl
    unfold pL_errors_j95 at h
    refine lv_iconst (v := (0 : Int32)) hx hb dL_errors_95 (by decide) ?_
    exact j96 c0_0 (0 : Int32) _ _ _ h hP hS (lv_sub hl [0] rfl)
  unfold pL_errors at h
  refine lv_aload_n hx hb dL_errors_0 rfl (lv_at hl 0 rfl) ?_
  refine lv_iconst (v := (2 : Int32)) hx hb dL_errors_1 (by decide) ?_
  refine lv_iconst (v := (1 : Int32)) hx hb dL_errors_2 (by decide) ?_
  refine lv_iconst (v := (1 : Int32)) hx hb dL_errors_3 (by decide) ?_
  obtain ⟨q2, h1, h⟩ := Option.bind_eq_some_iff.mp h
  refine kciA (va_runV (As := [.int (2 : Int32), .int (1 : Int32), .int (1 : Int32)]) (rest := []) ⟨hx, hb, hml, hown, hts⟩ (aX9_addChapter l D cI cC cS lo aV vO0 (X) (2 : Int32) (1 : Int32) (1 : Int32) h1) (cwV 3 hts gL_errors_X9_addChapter rfl rfl rfl (by decide +kernel) ⟨Nat.le_of_ble_eq_true rfl, Nat.le_of_ble_eq_true rfl⟩) (kpreVA hP hK hN (Nat.le_trans hz hS.1)) rfl rfl hl.1 rfl (lv_room (Nat.le_of_ble_eq_true rfl)) dL_errors_4 ⟨Nat.le_of_ble_eq_true rfl, Nat.le_of_ble_eq_true rfl⟩) hS (fun H locs hP hS => ?_)
  refine lv_iconst (v := (-1 : Int32)) hx hb dL_errors_7 (by decide) ?_
  refine lv_icmp_ne (tgt := 95) hx hb dL_errors_8 (by decide) (fun g => ?_) (fun g => ?_)
  · rw [if_neg g] at h
    exact j95 q2.2 _ _ _ h hP hS (lv_sub hl [0] rfl)
  · rw [if_pos g] at h
    refine lv_aload_n hx hb dL_errors_11 rfl (lv_at hl 0 rfl) ?_
    refine lv_iconst (v := (0 : Int32)) hx hb dL_errors_12 (by decide) ?_
    refine lv_iconst (v := (0 : Int32)) hx hb dL_errors_13 (by decide) ?_
    refine lv_iconst (v := (1 : Int32)) hx hb dL_errors_14 (by decide) ?_
    obtain ⟨q24, h23, h⟩ := Option.bind_eq_some_iff.mp h
    refine kciA (va_runV (As := [.int (0 : Int32), .int (0 : Int32), .int (1 : Int32)]) (rest := []) ⟨hx, hb, hml, hown, hts⟩ (aX9_addChapter l D cI cC cS lo aV q2.2 (X) (0 : Int32) (0 : Int32) (1 : Int32) h23) (cwV 3 hts gL_errors_X9_addChapter rfl rfl rfl (by decide +kernel) ⟨Nat.le_of_ble_eq_true rfl, Nat.le_of_ble_eq_true rfl⟩) (kpreVA hP hK hN (Nat.le_trans hz hS.1)) rfl rfl hl.1 rfl (lv_room (Nat.le_of_ble_eq_true rfl)) dL_errors_15 ⟨Nat.le_of_ble_eq_true rfl, Nat.le_of_ble_eq_true rfl⟩) hS (fun H locs hP hS => ?_)
    refine lv_bipush (v := (-2 : Int32)) hx hb dL_errors_18 (by decide) ?_
    refine lv_icmp_ne (tgt := 95) hx hb dL_errors_20 (by decide) (fun g => ?_) (fun g => ?_)
    · rw [if_neg g] at h
      exact j95 q24.2 _ _ _ h hP hS (lv_sub hl [0] rfl)
    · rw [if_pos g] at h
      refine lv_aload_n hx hb dL_errors_23 rfl (lv_at hl 0 rfl) ?_
      refine lv_iconst (v := (0 : Int32)) hx hb dL_errors_24 (by decide) ?_
      refine lv_bipush (v := (61 : Int32)) hx hb dL_errors_25 (by decide) ?_
      refine lv_iconst (v := (1 : Int32)) hx hb dL_errors_27 (by decide) ?_
      obtain ⟨q26, h25, h⟩ := Option.bind_eq_some_iff.mp h
      refine kciA (va_runV (As := [.int (0 : Int32), .int (61 : Int32), .int (1 : Int32)]) (rest := []) ⟨hx, hb, hml, hown, hts⟩ (aX9_addChapter l D cI cC cS lo aV q24.2 (X) (0 : Int32) (61 : Int32) (1 : Int32) h25) (cwV 3 hts gL_errors_X9_addChapter rfl rfl rfl (by decide +kernel) ⟨Nat.le_of_ble_eq_true rfl, Nat.le_of_ble_eq_true rfl⟩) (kpreVA hP hK hN (Nat.le_trans hz hS.1)) rfl rfl hl.1 rfl (lv_room (Nat.le_of_ble_eq_true rfl)) dL_errors_28 ⟨Nat.le_of_ble_eq_true rfl, Nat.le_of_ble_eq_true rfl⟩) hS (fun H locs hP hS => ?_)
      refine lv_bipush (v := (-2 : Int32)) hx hb dL_errors_31 (by decide) ?_
      refine lv_icmp_ne (tgt := 95) hx hb dL_errors_33 (by decide) (fun g => ?_) (fun g => ?_)
      · rw [if_neg g] at h
        exact j95 q26.2 _ _ _ h hP hS (lv_sub hl [0] rfl)
      · rw [if_pos g] at h
        refine lv_aload_n hx hb dL_errors_36 rfl (lv_at hl 0 rfl) ?_
        refine lv_iconst (v := (0 : Int32)) hx hb dL_errors_37 (by decide) ?_
        refine lv_iconst (v := (1 : Int32)) hx hb dL_errors_38 (by decide) ?_
        refine lv_sipush (v := (2001 : Int32)) hx hb dL_errors_39 (by decide) ?_
        obtain ⟨q28, h27, h⟩ := Option.bind_eq_some_iff.mp h
        refine kciA (va_runV (As := [.int (0 : Int32), .int (1 : Int32), .int (2001 : Int32)]) (rest := []) ⟨hx, hb, hml, hown, hts⟩ (aX9_addChapter l D cI cC cS lo aV q26.2 (X) (0 : Int32) (1 : Int32) (2001 : Int32) h27) (cwV 3 hts gL_errors_X9_addChapter rfl rfl rfl (by decide +kernel) ⟨Nat.le_of_ble_eq_true rfl, Nat.le_of_ble_eq_true rfl⟩) (kpreVA hP hK hN (Nat.le_trans hz hS.1)) rfl rfl hl.1 rfl (lv_room (Nat.le_of_ble_eq_true rfl)) dL_errors_42 ⟨Nat.le_of_ble_eq_true rfl, Nat.le_of_ble_eq_true rfl⟩) hS (fun H locs hP hS => ?_)
        refine lv_bipush (v := (-2 : Int32)) hx hb dL_errors_45 (by decide) ?_
        refine lv_icmp_ne (tgt := 95) hx hb dL_errors_47 (by decide) (fun g => ?_) (fun g => ?_)
        · rw [if_neg g] at h
          exact j95 q28.2 _ _ _ h hP hS (lv_sub hl [0] rfl)
        · rw [if_pos g] at h
          refine lv_aload_n hx hb dL_errors_50 rfl (lv_at hl 0 rfl) ?_
          refine lv_iconst (v := (0 : Int32)) hx hb dL_errors_51 (by decide) ?_
          refine lv_aload_n hx hb dL_errors_52 rfl (lv_at hl 0 rfl) ?_
          refine lv_iconst (v := (2 : Int32)) hx hb dL_errors_53 (by decide) ?_
          obtain ⟨q30, h29, h⟩ := Option.bind_eq_some_iff.mp h
          refine kciA (va_runV (As := [.int (2 : Int32)]) (rest := [.int (0 : Int32), .ref aV]) ⟨hx, hb, hml, hown, hts⟩ (aX9_count l D cI cC cS lo aV q28.2 (X) (2 : Int32) h29) (cwV 1 hts gL_errors_X9_count rfl rfl rfl (by decide +kernel) ⟨Nat.le_of_ble_eq_true rfl, Nat.le_of_ble_eq_true rfl⟩) (kpreVA hP hK hN (Nat.le_trans hz hS.1)) rfl rfl hl.1 rfl (lv_room (Nat.le_of_ble_eq_true rfl)) dL_errors_54 ⟨Nat.le_of_ble_eq_true rfl, Nat.le_of_ble_eq_true rfl⟩) hS (fun H locs hP hS => ?_)
          refine lv_iconst (v := (1 : Int32)) hx hb dL_errors_57 (by decide) ?_
          refine lv_iconst (v := (0 : Int32)) hx hb dL_errors_58 (by decide) ?_
          obtain ⟨q32, h31, h⟩ := Option.bind_eq_some_iff.mp h
          refine kciA (va_runV (As := [.int (0 : Int32), .int q30, .int (1 : Int32), .int (0 : Int32)]) (rest := []) ⟨hx, hb, hml, hown, hts⟩ (aX9_setVerse l D cI cC cS lo aV q28.2 (X) (0 : Int32) q30 (1 : Int32) (0 : Int32) h31) (cwV 4 hts gL_errors_X9_setVerse rfl rfl rfl (by decide +kernel) ⟨Nat.le_of_ble_eq_true rfl, Nat.le_of_ble_eq_true rfl⟩) (kpreVA hP hK hN (Nat.le_trans hz hS.1)) rfl rfl hl.1 rfl (lv_room (Nat.le_of_ble_eq_true rfl)) dL_errors_59 ⟨Nat.le_of_ble_eq_true rfl, Nat.le_of_ble_eq_true rfl⟩) hS (fun H locs hP hS => ?_)
          refine lv_iconst (v := (-1 : Int32)) hx hb dL_errors_62 (by decide) ?_
          refine lv_icmp_ne (tgt := 95) hx hb dL_errors_63 (by decide) (fun g => ?_) (fun g => ?_)
          · rw [if_neg g] at h
            exact j95 q32.2 _ _ _ h hP hS (lv_sub hl [0] rfl)
          · rw [if_pos g] at h
            refine lv_aload_n hx hb dL_errors_66 rfl (lv_at hl 0 rfl) ?_
            refine lv_iconst (v := (1 : Int32)) hx hb dL_errors_67 (by decide) ?_
            refine lv_aload_n hx hb dL_errors_68 rfl (lv_at hl 0 rfl) ?_
            refine lv_iconst (v := (3 : Int32)) hx hb dL_errors_69 (by decide) ?_
            obtain ⟨q34, h33, h⟩ := Option.bind_eq_some_iff.mp h
            refine kciA (va_runV (As := [.int (3 : Int32)]) (rest := [.int (1 : Int32), .ref aV]) ⟨hx, hb, hml, hown, hts⟩ (aX9_count l D cI cC cS lo aV q32.2 (X) (3 : Int32) h33) (cwV 1 hts gL_errors_X9_count rfl rfl rfl (by decide +kernel) ⟨Nat.le_of_ble_eq_true rfl, Nat.le_of_ble_eq_true rfl⟩) (kpreVA hP hK hN (Nat.le_trans hz hS.1)) rfl rfl hl.1 rfl (lv_room (Nat.le_of_ble_eq_true rfl)) dL_errors_70 ⟨Nat.le_of_ble_eq_true rfl, Nat.le_of_ble_eq_true rfl⟩) hS (fun H locs hP hS => ?_)
            obtain ⟨q36, h35, h⟩ := Option.bind_eq_some_iff.mp h
            refine kciA (va_runV (As := [.int (1 : Int32), .int q34]) (rest := []) ⟨hx, hb, hml, hown, hts⟩ (aX9_joinVerses l D cI cC cS lo aV q32.2 (X) (1 : Int32) q34 h35) (cwV 2 hts gL_errors_X9_joinVerses rfl rfl rfl (by decide +kernel) ⟨Nat.le_of_ble_eq_true rfl, Nat.le_of_ble_eq_true rfl⟩) (kpreVA hP hK hN (Nat.le_trans hz hS.1)) rfl rfl hl.1 rfl (lv_room (Nat.le_of_ble_eq_true rfl)) dL_errors_73 ⟨Nat.le_of_ble_eq_true rfl, Nat.le_of_ble_eq_true rfl⟩) hS (fun H locs hP hS => ?_)
            refine lv_iconst (v := (-1 : Int32)) hx hb dL_errors_76 (by decide) ?_
            refine lv_icmp_ne (tgt := 95) hx hb dL_errors_77 (by decide) (fun g => ?_) (fun g => ?_)
            · rw [if_neg g] at h
              exact j95 q36.2 _ _ _ h hP hS (lv_sub hl [0] rfl)
            · rw [if_pos g] at h
              refine lv_aload_n hx hb dL_errors_80 rfl (lv_at hl 0 rfl) ?_
              refine lv_iconst (v := (0 : Int32)) hx hb dL_errors_81 (by decide) ?_
              refine lv_iconst (v := (-1 : Int32)) hx hb dL_errors_82 (by decide) ?_
              refine lv_iconst (v := (1 : Int32)) hx hb dL_errors_83 (by decide) ?_
              obtain ⟨q38, h37, h⟩ := Option.bind_eq_some_iff.mp h
              refine kciA (va_runV (As := [.int (0 : Int32), .int (-1 : Int32), .int (1 : Int32)]) (rest := []) ⟨hx, hb, hml, hown, hts⟩ (aX9_splitVerse l D cI cC cS lo aV q36.2 (X) (0 : Int32) (-1 : Int32) (1 : Int32) h37) (cwV 3 hts gL_errors_X9_splitVerse rfl rfl rfl (by decide +kernel) ⟨Nat.le_of_ble_eq_true rfl, Nat.le_of_ble_eq_true rfl⟩) (kpreVA hP hK hN (Nat.le_trans hz hS.1)) rfl rfl hl.1 rfl (lv_room (Nat.le_of_ble_eq_true rfl)) dL_errors_84 ⟨Nat.le_of_ble_eq_true rfl, Nat.le_of_ble_eq_true rfl⟩) hS (fun H locs hP hS => ?_)
              refine lv_iconst (v := (-1 : Int32)) hx hb dL_errors_87 (by decide) ?_
              refine lv_icmp_ne (tgt := 95) hx hb dL_errors_88 (by decide) (fun g => ?_) (fun g => ?_)
              · rw [if_neg g] at h
                exact j95 q38.2 _ _ _ h hP hS (lv_sub hl [0] rfl)
              · rw [if_pos g] at h
                refine lv_iconst (v := (1 : Int32)) hx hb dL_errors_91 (by decide) ?_
                refine lv_goto (tgt := 96) hx hb dL_errors_92 (by decide) ?_
                exact j96 q38.2 (1 : Int32) _ _ _ h hP hS (lv_sub hl [0] rfl)
