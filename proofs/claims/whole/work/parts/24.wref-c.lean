-- walks: ref (printed by wip/whole/gen)
set_option maxHeartbeats 8000000 in
set_option maxRecDepth 100000 in
theorem kX10_joinGroups (l : Launch) (D : va_G) (cI cC cS : ClassId) (aD : Nat × Nat × Nat × Nat × Nat × Nat × Nat × Nat × Nat × Nat × Nat) (vD0 : (Nat → Int32)) (vD1 : (Nat → Int32)) (vD2 : Int32) (vD3 : Int32) (vD4 : (Nat → Int32)) (vD5 : Int32) (vD6 : Int32) (vD7 : Int32) (vD8 : Int32) (vD9 : Int32) (vD10 : Int32) (vD11 : (Nat → Int32)) (vD12 : (Nat → Int32)) (vD13 : Int32) (vD14 : Int32) (vD15 : (Nat → Int32)) (vD16 : Int32) (vD17 : Int32) (vD18 : Int32) (vD19 : (Nat → Int32)) (vD20 : (Nat → Int32)) (vD21 : (Nat → Int32)) (vD22 : (Nat → Int32)) (i1 : Int32) (i2 : Int32) (sz : Nat) {q : (Nat → Int32)} (h : pX10_joinGroups vD0 i1 i2 = some q) : kMv l yX10_joinGroups wsX10_joinGroups ({ frames := 1, cells := 0, slots := 0, locals := 20 } : Room) D (kTy cI cC cS) [.ref aD.1, .int i1, .int i2] (wMD cC cI aD vD0 vD1 vD2 vD3 vD4 vD5 vD6 vD7 vD8 vD9 vD10 vD11 vD12 vD13 vD14 vD15 vD16 vD17 vD18 vD19 vD20 vD21 vD22) sz (wMD cC cI aD q vD1 vD2 vD3 vD4 vD5 vD6 vD7 vD8 vD9 vD10 vD11 vD12 vD13 vD14 vD15 vD16 vD17 vD18 vD19 vD20 vD21 vD22) := by
  refine Met.ofW (cc := cX10_joinGroups) (maxL := 5) (ret := none) (by decide) rfl ?_
  intro p e s m args below meth c s₁ B hml hv
  obtain ⟨rfl, hsz, hP, hK, hD0, hN⟩ := hv
  have hx := B.exec
  have hb := B.bytes
  have hr := B.returns
  have hts := atoms_spec (ws := wsX10_joinGroups) B.pre
  have hown : s.vm.findClass RX10 = some m.cls := findClass_of_methodNamed B.named
  have hlocks := B.notSynchronized
  subst hsz
  have hD := hD0.self (sz := s.heap.size)
  generalize hAe : va_A (wMD cC cI aD vD0 vD1 vD2 vD3 vD4 vD5 vD6 vD7 vD8 vD9 vD10 vD11 vD12 vD13 vD14 vD15 vD16 vD17 vD18 vD19 vD20 vD21 vD22) s.heap.size = A at hD ⊢
  have hA : ∀ q : Nat, s.heap.size ≤ q → A q := fun q h => by rw [← hAe]; exact Or.inr h
  have hS : va_S A s.heap s.heap [] := va_S.rf
  have huX10 : ∀ w ∈ u_ws RX10 TX10 23, w ∈ wsX10_joinGroups := by decide +kernel
  have hl := lv_entry ([.ref aD.1, .int i1, .int i2]) (n := 5) (Nat.le_of_ble_eq_true rfl)
  rw [lg_entry_eq]
  generalize (lg_sl ([.ref aD.1, .int i1, .int i2]) ++ List.replicate (5 - (lg_sl ([.ref aD.1, .int i1, .int i2])).length) Slot.unset).toArray = ls at hl ⊢
  have hl : lv_has ls 5 [(0, .ref aD.1), (1, .int i1), (2, .int i2)] := hl
  have L74 : ∀ (nL74 : Nat) (c0_0 : (Nat → Int32)) (y3 : Int32) (y4 : Int32) (H : Heap) (locs : List Loc) (ls : Array Slot), pX10_joinGroups_L74  nL74 c0_0 y3 y4 = some q → va_P D vwCl (wMD cC cI aD c0_0 vD1 vD2 vD3 vD4 vD5 vD6 vD7 vD8 vD9 vD10 vD11 vD12 vD13 vD14 vD15 vD16 vD17 vD18 vD19 vD20 vD21 vD22) H → va_D A (wMD cC cI aD c0_0 vD1 vD2 vD3 vD4 vD5 vD6 vD7 vD8 vD9 vD10 vD11 vD12 vD13 vD14 vD15 vD16 vD17 vD18 vD19 vD20 vD21 vD22) → va_S A s.heap H locs → lv_has ls 5 [(0, .ref aD.1), (3, .int y3), (4, .int y4)] → W p l e ({ frames := 1, cells := 0, slots := 0, locals := 20 } : Room) s m ([.ref aD.1, .int i1, .int i2] : List Value).toArray below meth c H locs 0 0 (MQ below (va_Qv (fun (_ : Unit) => True) (fun _ => kPost D (wMD cC cI aD q vD1 vD2 vD3 vD4 vD5 vD6 vD7 vD8 vD9 vD10 vD11 vD12 vD13 vD14 vD15 vD16 vD17 vD18 vD19 vD20 vD21 vD22) A) A) ([.ref aD.1, .int i1, .int i2] : List Value).toArray s 0 0 A) (F0 m 74 ls []) := by
    clear h hP hD hS hl
    intro nL74
    induction nL74 with
    | zero => intro c0_0 y3 y4 H locs ls h; have h : (none : Option ((Nat → Int32))) = some q := h; cases h
    | succ nL74 ihL74 =>
      intro c0_0 y3 y4 H locs ls h hP hD hS hl
      have h : pX10_joinGroups_bL74 (pX10_joinGroups_L74  nL74) c0_0 y3 y4 = some q := h
      unfold pX10_joinGroups_bL74 at h
      refine lv_iload hx hb dX10_joinGroups_74 (lv_at hl 2 rfl) ?_
      refine lv_iload_n hx hb dX10_joinGroups_76 rfl (lv_at hl 1 rfl) ?_
      refine lv_iadd hx hb dX10_joinGroups_77 ?_
      refine lv_aload_n hx hb dX10_joinGroups_78 rfl (lv_at hl 0 rfl) ?_
      obtain ⟨q2, h1, h⟩ := Option.bind_eq_some_iff.mp h
      refine kcir [0, 1, 2, 3, 4, 5, 6, 7, 8, 9, 10] (va_runV (As := []) (rest := [.int (y4 + y3)]) ⟨hx, hb, hml, hown, hts⟩ (kX10_groups l D cI cC cS aD c0_0 vD1 vD2 vD3 vD4 vD5 vD6 vD7 vD8 vD9 vD10 vD11 vD12 vD13 vD14 vD15 vD16 vD17 vD18 vD19 vD20 vD21 vD22 H.size h1) (cwV 0 hts gX10_joinGroups_X10_groups rfl rfl rfl (by decide +kernel) ⟨Nat.le_of_ble_eq_true rfl, Nat.le_of_ble_eq_true rfl⟩) (kpreV hK hN hP hD [0, 1, 2, 3, 4, 5, 6, 7, 8, 9, 10] rfl (by decide) 10 rfl rfl) rfl rfl hl.1 rfl (lv_room (Nat.le_of_ble_eq_true rfl)) dX10_joinGroups_79 ⟨Nat.le_refl _, Nat.le_refl _⟩) hP hD hS hA rfl (fun H locs hP hS => ?_)
      refine lv_icmp_ge (tgt := 139) hx hb dX10_joinGroups_82 (by decide) (fun g => ?_) (fun g => ?_)
      · rw [if_pos g] at h
        refine lv_aload_n hx hb dX10_joinGroups_139 rfl (lv_at hl 0 rfl) ?_
        refine va_get (D := D) (ci := 10) (v := .ref aD.2.1) (C := RX10) (T := TX10) (N := 23) hx hb hts huX10 hown hK hP 0 rfl rfl 0 (by decide) (hts (.fieldLink RX10 7 "VerseColumnsModel" "row" "[I") (by decide +kernel)) (fun _ h9 => h9) rfl dX10_joinGroups_140 ?_
        refine lv_sipush (v := (364 : Int32)) hx hb dX10_joinGroups_143 (by decide) ?_
        refine lv_dup2_11 hx hb dX10_joinGroups_146 rfl rfl ?_
        obtain ⟨g, h⟩ := kif h
        refine va_iald hx hb hK hP 1 0 rfl rfl (kin g) dX10_joinGroups_147 ?_
        refine lv_iload_n hx hb dX10_joinGroups_148 rfl (lv_at hl 1 rfl) ?_
        refine lv_isub hx hb dX10_joinGroups_149 ?_
        obtain ⟨g, h⟩ := kif h
        refine va_iast hx hb hK hP hD hS 1 0 rfl rfl (kin g) dX10_joinGroups_150 (fun H locs hP hD hS => ?_)
        have hP : va_P D vwCl (wMD cC cI aD (upd c0_0 (364 : Int32).toNatClampNeg ((c0_0 (364 : Int32).toNatClampNeg) - y3)) vD1 vD2 vD3 vD4 vD5 vD6 vD7 vD8 vD9 vD10 vD11 vD12 vD13 vD14 vD15 vD16 vD17 vD18 vD19 vD20 vD21 vD22) H := hP
        have hD : va_D A (wMD cC cI aD (upd c0_0 (364 : Int32).toNatClampNeg ((c0_0 (364 : Int32).toNatClampNeg) - y3)) vD1 vD2 vD3 vD4 vD5 vD6 vD7 vD8 vD9 vD10 vD11 vD12 vD13 vD14 vD15 vD16 vD17 vD18 vD19 vD20 vD21 vD22) := hD
        obtain rfl := Option.some.inj h
        exact W.vret hx hb hr (fun t ht hW => ⟨⟨(), rfl, trivial, by rw [ht]; exact hP, hD⟩, hS.F ht⟩) hS.2.2 dX10_joinGroups_151
      · rw [if_neg g] at h
        refine lv_aload_n hx hb dX10_joinGroups_85 rfl (lv_at hl 0 rfl) ?_
        refine va_get (D := D) (ci := 10) (v := .ref aD.2.1) (C := RX10) (T := TX10) (N := 23) hx hb hts huX10 hown hK hP 0 rfl rfl 0 (by decide) (hts (.fieldLink RX10 7 "VerseColumnsModel" "row" "[I") (by decide +kernel)) (fun _ h9 => h9) rfl dX10_joinGroups_86 ?_
        refine lv_sipush (v := (365 : Int32)) hx hb dX10_joinGroups_89 (by decide) ?_
        refine lv_iload hx hb dX10_joinGroups_92 (lv_at hl 2 rfl) ?_
        refine lv_iadd hx hb dX10_joinGroups_94 ?_
        refine lv_aload_n hx hb dX10_joinGroups_95 rfl (lv_at hl 0 rfl) ?_
        refine va_get (D := D) (ci := 10) (v := .ref aD.2.1) (C := RX10) (T := TX10) (N := 23) hx hb hts huX10 hown hK hP 0 rfl rfl 0 (by decide) (hts (.fieldLink RX10 7 "VerseColumnsModel" "row" "[I") (by decide +kernel)) (fun _ h9 => h9) rfl dX10_joinGroups_96 ?_
        refine lv_sipush (v := (365 : Int32)) hx hb dX10_joinGroups_99 (by decide) ?_
        refine lv_iload hx hb dX10_joinGroups_102 (lv_at hl 2 rfl) ?_
        refine lv_iadd hx hb dX10_joinGroups_104 ?_
        refine lv_iload_n hx hb dX10_joinGroups_105 rfl (lv_at hl 1 rfl) ?_
        refine lv_iadd hx hb dX10_joinGroups_106 ?_
        obtain ⟨g, h⟩ := kif h
        refine va_iald hx hb hK hP 1 0 rfl rfl (kin g) dX10_joinGroups_107 ?_
        obtain ⟨g, h⟩ := kif h
        refine va_iast hx hb hK hP hD hS 1 0 rfl rfl (kin g) dX10_joinGroups_108 (fun H locs hP hD hS => ?_)
        have hP : va_P D vwCl (wMD cC cI aD (upd c0_0 ((365 : Int32) + y4).toNatClampNeg (c0_0 (((365 : Int32) + y4) + y3).toNatClampNeg)) vD1 vD2 vD3 vD4 vD5 vD6 vD7 vD8 vD9 vD10 vD11 vD12 vD13 vD14 vD15 vD16 vD17 vD18 vD19 vD20 vD21 vD22) H := hP
        have hD : va_D A (wMD cC cI aD (upd c0_0 ((365 : Int32) + y4).toNatClampNeg (c0_0 (((365 : Int32) + y4) + y3).toNatClampNeg)) vD1 vD2 vD3 vD4 vD5 vD6 vD7 vD8 vD9 vD10 vD11 vD12 vD13 vD14 vD15 vD16 vD17 vD18 vD19 vD20 vD21 vD22) := hD
        refine lv_aload_n hx hb dX10_joinGroups_109 rfl (lv_at hl 0 rfl) ?_
        refine va_get (D := D) (ci := 10) (v := .ref aD.2.1) (C := RX10) (T := TX10) (N := 23) hx hb hts huX10 hown hK hP 0 rfl rfl 0 (by decide) (hts (.fieldLink RX10 7 "VerseColumnsModel" "row" "[I") (by decide +kernel)) (fun _ h9 => h9) rfl dX10_joinGroups_110 ?_
        refine lv_sipush (v := (485 : Int32)) hx hb dX10_joinGroups_113 (by decide) ?_
        refine lv_iload hx hb dX10_joinGroups_116 (lv_at hl 2 rfl) ?_
        refine lv_iadd hx hb dX10_joinGroups_118 ?_
        refine lv_aload_n hx hb dX10_joinGroups_119 rfl (lv_at hl 0 rfl) ?_
        refine va_get (D := D) (ci := 10) (v := .ref aD.2.1) (C := RX10) (T := TX10) (N := 23) hx hb hts huX10 hown hK hP 0 rfl rfl 0 (by decide) (hts (.fieldLink RX10 7 "VerseColumnsModel" "row" "[I") (by decide +kernel)) (fun _ h9 => h9) rfl dX10_joinGroups_120 ?_
        refine lv_sipush (v := (485 : Int32)) hx hb dX10_joinGroups_123 (by decide) ?_
        refine lv_iload hx hb dX10_joinGroups_126 (lv_at hl 2 rfl) ?_
        refine lv_iadd hx hb dX10_joinGroups_128 ?_
        refine lv_iload_n hx hb dX10_joinGroups_129 rfl (lv_at hl 1 rfl) ?_
        refine lv_iadd hx hb dX10_joinGroups_130 ?_
        obtain ⟨g, h⟩ := kif h
        refine va_iald hx hb hK hP 1 0 rfl rfl (kin g) dX10_joinGroups_131 ?_
        obtain ⟨g, h⟩ := kif h
        refine va_iast hx hb hK hP hD hS 1 0 rfl rfl (kin g) dX10_joinGroups_132 (fun H locs hP hD hS => ?_)
        have hP : va_P D vwCl (wMD cC cI aD (upd (upd c0_0 ((365 : Int32) + y4).toNatClampNeg (c0_0 (((365 : Int32) + y4) + y3).toNatClampNeg)) ((485 : Int32) + y4).toNatClampNeg ((upd c0_0 ((365 : Int32) + y4).toNatClampNeg (c0_0 (((365 : Int32) + y4) + y3).toNatClampNeg)) (((485 : Int32) + y4) + y3).toNatClampNeg)) vD1 vD2 vD3 vD4 vD5 vD6 vD7 vD8 vD9 vD10 vD11 vD12 vD13 vD14 vD15 vD16 vD17 vD18 vD19 vD20 vD21 vD22) H := hP
        have hD : va_D A (wMD cC cI aD (upd (upd c0_0 ((365 : Int32) + y4).toNatClampNeg (c0_0 (((365 : Int32) + y4) + y3).toNatClampNeg)) ((485 : Int32) + y4).toNatClampNeg ((upd c0_0 ((365 : Int32) + y4).toNatClampNeg (c0_0 (((365 : Int32) + y4) + y3).toNatClampNeg)) (((485 : Int32) + y4) + y3).toNatClampNeg)) vD1 vD2 vD3 vD4 vD5 vD6 vD7 vD8 vD9 vD10 vD11 vD12 vD13 vD14 vD15 vD16 vD17 vD18 vD19 vD20 vD21 vD22) := hD
        refine lv_iinc (v := (y4 + (1 : Int32))) (lv' := [(4, .int (y4 + (1 : Int32))), (0, .ref aD.1), (3, .int y3)]) hx hb dX10_joinGroups_133 hl (k := 2) rfl rfl (by decide) rfl (fun ls hl => ?_)
        refine lv_goto (tgt := 74) hx hb dX10_joinGroups_136 (by decide) ?_
        exact ihL74 (upd (upd c0_0 ((365 : Int32) + y4).toNatClampNeg (c0_0 (((365 : Int32) + y4) + y3).toNatClampNeg)) ((485 : Int32) + y4).toNatClampNeg ((upd c0_0 ((365 : Int32) + y4).toNatClampNeg (c0_0 (((365 : Int32) + y4) + y3).toNatClampNeg)) (((485 : Int32) + y4) + y3).toNatClampNeg)) y3 (y4 + (1 : Int32)) _ _ _ h hP hD hS (lv_sub hl [1, 2, 0] rfl)
  have L9 : ∀ (nL9 : Nat) (c0_0 : (Nat → Int32)) (y1 : Int32) (y2 : Int32) (y3 : Int32) (y4 : Int32) (H : Heap) (locs : List Loc) (ls : Array Slot), pX10_joinGroups_L9  nL9 c0_0 y1 y2 y3 y4 = some q → va_P D vwCl (wMD cC cI aD c0_0 vD1 vD2 vD3 vD4 vD5 vD6 vD7 vD8 vD9 vD10 vD11 vD12 vD13 vD14 vD15 vD16 vD17 vD18 vD19 vD20 vD21 vD22) H → va_D A (wMD cC cI aD c0_0 vD1 vD2 vD3 vD4 vD5 vD6 vD7 vD8 vD9 vD10 vD11 vD12 vD13 vD14 vD15 vD16 vD17 vD18 vD19 vD20 vD21 vD22) → va_S A s.heap H locs → lv_has ls 5 [(0, .ref aD.1), (1, .int y1), (2, .int y2), (3, .int y3), (4, .int y4)] → W p l e ({ frames := 1, cells := 0, slots := 0, locals := 20 } : Room) s m ([.ref aD.1, .int i1, .int i2] : List Value).toArray below meth c H locs 0 0 (MQ below (va_Qv (fun (_ : Unit) => True) (fun _ => kPost D (wMD cC cI aD q vD1 vD2 vD3 vD4 vD5 vD6 vD7 vD8 vD9 vD10 vD11 vD12 vD13 vD14 vD15 vD16 vD17 vD18 vD19 vD20 vD21 vD22) A) A) ([.ref aD.1, .int i1, .int i2] : List Value).toArray s 0 0 A) (F0 m 9 ls []) := by
    clear h hP hD hS hl
    intro nL9
    induction nL9 with
    | zero => intro c0_0 y1 y2 y3 y4 H locs ls h; have h : (none : Option ((Nat → Int32))) = some q := h; cases h
    | succ nL9 ihL9 =>
      intro c0_0 y1 y2 y3 y4 H locs ls h hP hD hS hl
      have h : pX10_joinGroups_bL9 (pX10_joinGroups_L9  nL9) c0_0 y1 y2 y3 y4 = some q := h
      unfold pX10_joinGroups_bL9 at h
      refine lv_iload hx hb dX10_joinGroups_9 (lv_at hl 4 rfl) ?_
      refine lv_iload_n hx hb dX10_joinGroups_11 rfl (lv_at hl 2 rfl) ?_
      refine lv_icmp_gt (tgt := 69) hx hb dX10_joinGroups_12 (by decide) (fun g => ?_) (fun g => ?_)
      · rw [if_pos g] at h
        refine lv_iload_n hx hb dX10_joinGroups_69 rfl (lv_at hl 1 rfl) ?_
        refine lv_iconst (v := (1 : Int32)) hx hb dX10_joinGroups_70 (by decide) ?_
        refine lv_iadd hx hb dX10_joinGroups_71 ?_
        refine lv_istore (lv' := [(4, .int (y1 + (1 : Int32))), (0, .ref aD.1), (1, .int y1), (2, .int y2), (3, .int y3)]) hx hb dX10_joinGroups_72 hl (by decide) rfl (fun ls hl => ?_)
        exact L74 4000 c0_0 y3 (y1 + (1 : Int32)) _ _ _ h hP hD hS (lv_sub hl [1, 4, 0] rfl)
      · rw [if_neg g] at h
        refine lv_aload_n hx hb dX10_joinGroups_15 rfl (lv_at hl 0 rfl) ?_
        refine va_get (D := D) (ci := 10) (v := .ref aD.2.1) (C := RX10) (T := TX10) (N := 23) hx hb hts huX10 hown hK hP 0 rfl rfl 0 (by decide) (hts (.fieldLink RX10 7 "VerseColumnsModel" "row" "[I") (by decide +kernel)) (fun _ h9 => h9) rfl dX10_joinGroups_16 ?_
        refine lv_sipush (v := (365 : Int32)) hx hb dX10_joinGroups_19 (by decide) ?_
        refine lv_iload_n hx hb dX10_joinGroups_22 rfl (lv_at hl 1 rfl) ?_
        refine lv_iadd hx hb dX10_joinGroups_23 ?_
        refine lv_dup2_11 hx hb dX10_joinGroups_24 rfl rfl ?_
        obtain ⟨g, h⟩ := kif h
        refine va_iald hx hb hK hP 1 0 rfl rfl (kin g) dX10_joinGroups_25 ?_
        refine lv_aload_n hx hb dX10_joinGroups_26 rfl (lv_at hl 0 rfl) ?_
        refine va_get (D := D) (ci := 10) (v := .ref aD.2.1) (C := RX10) (T := TX10) (N := 23) hx hb hts huX10 hown hK hP 0 rfl rfl 0 (by decide) (hts (.fieldLink RX10 7 "VerseColumnsModel" "row" "[I") (by decide +kernel)) (fun _ h9 => h9) rfl dX10_joinGroups_27 ?_
        refine lv_sipush (v := (365 : Int32)) hx hb dX10_joinGroups_30 (by decide) ?_
        refine lv_iload hx hb dX10_joinGroups_33 (lv_at hl 4 rfl) ?_
        refine lv_iadd hx hb dX10_joinGroups_35 ?_
        obtain ⟨g, h⟩ := kif h
        refine va_iald hx hb hK hP 1 0 rfl rfl (kin g) dX10_joinGroups_36 ?_
        refine lv_iadd hx hb dX10_joinGroups_37 ?_
        obtain ⟨g, h⟩ := kif h
        refine va_iast hx hb hK hP hD hS 1 0 rfl rfl (kin g) dX10_joinGroups_38 (fun H locs hP hD hS => ?_)
        have hP : va_P D vwCl (wMD cC cI aD (upd c0_0 ((365 : Int32) + y1).toNatClampNeg ((c0_0 ((365 : Int32) + y1).toNatClampNeg) + (c0_0 ((365 : Int32) + y4).toNatClampNeg))) vD1 vD2 vD3 vD4 vD5 vD6 vD7 vD8 vD9 vD10 vD11 vD12 vD13 vD14 vD15 vD16 vD17 vD18 vD19 vD20 vD21 vD22) H := hP
        have hD : va_D A (wMD cC cI aD (upd c0_0 ((365 : Int32) + y1).toNatClampNeg ((c0_0 ((365 : Int32) + y1).toNatClampNeg) + (c0_0 ((365 : Int32) + y4).toNatClampNeg))) vD1 vD2 vD3 vD4 vD5 vD6 vD7 vD8 vD9 vD10 vD11 vD12 vD13 vD14 vD15 vD16 vD17 vD18 vD19 vD20 vD21 vD22) := hD
        refine lv_aload_n hx hb dX10_joinGroups_39 rfl (lv_at hl 0 rfl) ?_
        refine va_get (D := D) (ci := 10) (v := .ref aD.2.1) (C := RX10) (T := TX10) (N := 23) hx hb hts huX10 hown hK hP 0 rfl rfl 0 (by decide) (hts (.fieldLink RX10 7 "VerseColumnsModel" "row" "[I") (by decide +kernel)) (fun _ h9 => h9) rfl dX10_joinGroups_40 ?_
        refine lv_sipush (v := (485 : Int32)) hx hb dX10_joinGroups_43 (by decide) ?_
        refine lv_iload_n hx hb dX10_joinGroups_46 rfl (lv_at hl 1 rfl) ?_
        refine lv_iadd hx hb dX10_joinGroups_47 ?_
        refine lv_dup2_11 hx hb dX10_joinGroups_48 rfl rfl ?_
        obtain ⟨g, h⟩ := kif h
        refine va_iald hx hb hK hP 1 0 rfl rfl (kin g) dX10_joinGroups_49 ?_
        refine lv_aload_n hx hb dX10_joinGroups_50 rfl (lv_at hl 0 rfl) ?_
        refine va_get (D := D) (ci := 10) (v := .ref aD.2.1) (C := RX10) (T := TX10) (N := 23) hx hb hts huX10 hown hK hP 0 rfl rfl 0 (by decide) (hts (.fieldLink RX10 7 "VerseColumnsModel" "row" "[I") (by decide +kernel)) (fun _ h9 => h9) rfl dX10_joinGroups_51 ?_
        refine lv_sipush (v := (485 : Int32)) hx hb dX10_joinGroups_54 (by decide) ?_
        refine lv_iload hx hb dX10_joinGroups_57 (lv_at hl 4 rfl) ?_
        refine lv_iadd hx hb dX10_joinGroups_59 ?_
        obtain ⟨g, h⟩ := kif h
        refine va_iald hx hb hK hP 1 0 rfl rfl (kin g) dX10_joinGroups_60 ?_
        refine lv_iadd hx hb dX10_joinGroups_61 ?_
        obtain ⟨g, h⟩ := kif h
        refine va_iast hx hb hK hP hD hS 1 0 rfl rfl (kin g) dX10_joinGroups_62 (fun H locs hP hD hS => ?_)
        have hP : va_P D vwCl (wMD cC cI aD (upd (upd c0_0 ((365 : Int32) + y1).toNatClampNeg ((c0_0 ((365 : Int32) + y1).toNatClampNeg) + (c0_0 ((365 : Int32) + y4).toNatClampNeg))) ((485 : Int32) + y1).toNatClampNeg (((upd c0_0 ((365 : Int32) + y1).toNatClampNeg ((c0_0 ((365 : Int32) + y1).toNatClampNeg) + (c0_0 ((365 : Int32) + y4).toNatClampNeg))) ((485 : Int32) + y1).toNatClampNeg) + ((upd c0_0 ((365 : Int32) + y1).toNatClampNeg ((c0_0 ((365 : Int32) + y1).toNatClampNeg) + (c0_0 ((365 : Int32) + y4).toNatClampNeg))) ((485 : Int32) + y4).toNatClampNeg))) vD1 vD2 vD3 vD4 vD5 vD6 vD7 vD8 vD9 vD10 vD11 vD12 vD13 vD14 vD15 vD16 vD17 vD18 vD19 vD20 vD21 vD22) H := hP
        have hD : va_D A (wMD cC cI aD (upd (upd c0_0 ((365 : Int32) + y1).toNatClampNeg ((c0_0 ((365 : Int32) + y1).toNatClampNeg) + (c0_0 ((365 : Int32) + y4).toNatClampNeg))) ((485 : Int32) + y1).toNatClampNeg (((upd c0_0 ((365 : Int32) + y1).toNatClampNeg ((c0_0 ((365 : Int32) + y1).toNatClampNeg) + (c0_0 ((365 : Int32) + y4).toNatClampNeg))) ((485 : Int32) + y1).toNatClampNeg) + ((upd c0_0 ((365 : Int32) + y1).toNatClampNeg ((c0_0 ((365 : Int32) + y1).toNatClampNeg) + (c0_0 ((365 : Int32) + y4).toNatClampNeg))) ((485 : Int32) + y4).toNatClampNeg))) vD1 vD2 vD3 vD4 vD5 vD6 vD7 vD8 vD9 vD10 vD11 vD12 vD13 vD14 vD15 vD16 vD17 vD18 vD19 vD20 vD21 vD22) := hD
        refine lv_iinc (v := (y4 + (1 : Int32))) (lv' := [(4, .int (y4 + (1 : Int32))), (0, .ref aD.1), (1, .int y1), (2, .int y2), (3, .int y3)]) hx hb dX10_joinGroups_63 hl (k := 4) rfl rfl (by decide) rfl (fun ls hl => ?_)
        refine lv_goto (tgt := 9) hx hb dX10_joinGroups_66 (by decide) ?_
        exact ihL9 (upd (upd c0_0 ((365 : Int32) + y1).toNatClampNeg ((c0_0 ((365 : Int32) + y1).toNatClampNeg) + (c0_0 ((365 : Int32) + y4).toNatClampNeg))) ((485 : Int32) + y1).toNatClampNeg (((upd c0_0 ((365 : Int32) + y1).toNatClampNeg ((c0_0 ((365 : Int32) + y1).toNatClampNeg) + (c0_0 ((365 : Int32) + y4).toNatClampNeg))) ((485 : Int32) + y1).toNatClampNeg) + ((upd c0_0 ((365 : Int32) + y1).toNatClampNeg ((c0_0 ((365 : Int32) + y1).toNatClampNeg) + (c0_0 ((365 : Int32) + y4).toNatClampNeg))) ((485 : Int32) + y4).toNatClampNeg))) y1 y2 y3 (y4 + (1 : Int32)) _ _ _ h hP hD hS (lv_sub hl [1, 2, 3, 4, 0] rfl)
  unfold pX10_joinGroups at h
  refine lv_iload_n hx hb dX10_joinGroups_0 rfl (lv_at hl 2 rfl) ?_
  refine lv_iload_n hx hb dX10_joinGroups_1 rfl (lv_at hl 1 rfl) ?_
  refine lv_isub hx hb dX10_joinGroups_2 ?_
  refine lv_istore_n (lv' := [(3, .int (i2 - i1)), (0, .ref aD.1), (1, .int i1), (2, .int i2)]) hx hb dX10_joinGroups_3 rfl hl (by decide) rfl (fun ls hl => ?_)
  refine lv_iload_n hx hb dX10_joinGroups_4 rfl (lv_at hl 2 rfl) ?_
  refine lv_iconst (v := (1 : Int32)) hx hb dX10_joinGroups_5 (by decide) ?_
  refine lv_iadd hx hb dX10_joinGroups_6 ?_
  refine lv_istore (lv' := [(4, .int (i1 + (1 : Int32))), (3, .int (i2 - i1)), (0, .ref aD.1), (1, .int i1), (2, .int i2)]) hx hb dX10_joinGroups_7 hl (by decide) rfl (fun ls hl => ?_)
  exact L9 4000 vD0 i1 i2 (i2 - i1) (i1 + (1 : Int32)) _ _ _ h hP hD hS (lv_sub hl [2, 3, 4, 1, 0] rfl)
set_option maxHeartbeats 8000000 in
set_option maxRecDepth 100000 in
theorem kX10_chapterOf (l : Launch) (D : va_G) (cI cC cS : ClassId) (aD : Nat × Nat × Nat × Nat × Nat × Nat × Nat × Nat × Nat × Nat × Nat) (vD0 : (Nat → Int32)) (vD1 : (Nat → Int32)) (vD2 : Int32) (vD3 : Int32) (vD4 : (Nat → Int32)) (vD5 : Int32) (vD6 : Int32) (vD7 : Int32) (vD8 : Int32) (vD9 : Int32) (vD10 : Int32) (vD11 : (Nat → Int32)) (vD12 : (Nat → Int32)) (vD13 : Int32) (vD14 : Int32) (vD15 : (Nat → Int32)) (vD16 : Int32) (vD17 : Int32) (vD18 : Int32) (vD19 : (Nat → Int32)) (vD20 : (Nat → Int32)) (vD21 : (Nat → Int32)) (vD22 : (Nat → Int32)) (i1 : Int32) (i2 : Int32) (sz : Nat) {q : Int32} (h : pX10_chapterOf vD0 i1 i2 = some q) : kMi l yX10_chapterOf wsX10_chapterOf ({ frames := 0, cells := 0, slots := 0, locals := 0 } : Room) D (kTy cI cC cS) [.ref aD.1, .int i1, .int i2] (wMD cC cI aD vD0 vD1 vD2 vD3 vD4 vD5 vD6 vD7 vD8 vD9 vD10 vD11 vD12 vD13 vD14 vD15 vD16 vD17 vD18 vD19 vD20 vD21 vD22) sz q (wMD cC cI aD vD0 vD1 vD2 vD3 vD4 vD5 vD6 vD7 vD8 vD9 vD10 vD11 vD12 vD13 vD14 vD15 vD16 vD17 vD18 vD19 vD20 vD21 vD22) := by
  refine Met.ofW (cc := cX10_chapterOf) (maxL := 3) (ret := (some .int)) (by decide) rfl ?_
  intro p e s m args below meth c s₁ B hml hv
  obtain ⟨rfl, hsz, hP, hK, hD0, hN⟩ := hv
  have hx := B.exec
  have hb := B.bytes
  have hr := B.returns
  have hts := atoms_spec (ws := wsX10_chapterOf) B.pre
  have hown : s.vm.findClass RX10 = some m.cls := findClass_of_methodNamed B.named
  have hlocks := B.notSynchronized
  subst hsz
  have hD := hD0.self (sz := s.heap.size)
  generalize hAe : va_A (wMD cC cI aD vD0 vD1 vD2 vD3 vD4 vD5 vD6 vD7 vD8 vD9 vD10 vD11 vD12 vD13 vD14 vD15 vD16 vD17 vD18 vD19 vD20 vD21 vD22) s.heap.size = A at hD ⊢
  have hA : ∀ q : Nat, s.heap.size ≤ q → A q := fun q h => by rw [← hAe]; exact Or.inr h
  have hS : va_S A s.heap s.heap [] := va_S.rf
  have huX10 : ∀ w ∈ u_ws RX10 TX10 23, w ∈ wsX10_chapterOf := by decide +kernel
  have hl := lv_entry ([.ref aD.1, .int i1, .int i2]) (n := 3) (Nat.le_of_ble_eq_true rfl)
  rw [lg_entry_eq]
  generalize (lg_sl ([.ref aD.1, .int i1, .int i2]) ++ List.replicate (3 - (lg_sl ([.ref aD.1, .int i1, .int i2])).length) Slot.unset).toArray = ls at hl ⊢
  have hl : lv_has ls 3 [(0, .ref aD.1), (1, .int i1), (2, .int i2)] := hl
  unfold pX10_chapterOf at h
  refine lv_aload_n hx hb dX10_chapterOf_0 rfl (lv_at hl 0 rfl) ?_
  refine va_get (D := D) (ci := 10) (v := .ref aD.2.1) (C := RX10) (T := TX10) (N := 23) hx hb hts huX10 hown hK hP 0 rfl rfl 0 (by decide) (hts (.fieldLink RX10 7 "VerseColumnsModel" "row" "[I") (by decide +kernel)) (fun _ h9 => h9) rfl dX10_chapterOf_1 ?_
  refine lv_sipush (v := (240 : Int32)) hx hb dX10_chapterOf_4 (by decide) ?_
  refine lv_bipush (v := (60 : Int32)) hx hb dX10_chapterOf_7 (by decide) ?_
  refine lv_iload_n hx hb dX10_chapterOf_9 rfl (lv_at hl 1 rfl) ?_
  refine lv_imul hx hb dX10_chapterOf_10 ?_
  refine lv_iadd hx hb dX10_chapterOf_11 ?_
  refine lv_iload_n hx hb dX10_chapterOf_12 rfl (lv_at hl 2 rfl) ?_
  refine lv_iadd hx hb dX10_chapterOf_13 ?_
  obtain ⟨g, h⟩ := kif h
  refine va_iald hx hb hK hP 1 0 rfl rfl (kin g) dX10_chapterOf_14 ?_
  obtain rfl := Option.some.inj h
  exact W.iret (v := (vD0 (((240 : Int32) + ((60 : Int32) * i1)) + i2).toNatClampNeg)) hx hb hr (fun t ht hW => ⟨⟨_, (), rfl, rfl, by rw [ht]; exact hP, hD⟩, hS.F ht⟩) hS.2.2 dX10_chapterOf_15
set_option maxHeartbeats 8000000 in
set_option maxRecDepth 100000 in
theorem kX10_copyVerse (l : Launch) (D : va_G) (cI cC cS : ClassId) (aD : Nat × Nat × Nat × Nat × Nat × Nat × Nat × Nat × Nat × Nat × Nat) (vD0 : (Nat → Int32)) (vD1 : (Nat → Int32)) (vD2 : Int32) (vD3 : Int32) (vD4 : (Nat → Int32)) (vD5 : Int32) (vD6 : Int32) (vD7 : Int32) (vD8 : Int32) (vD9 : Int32) (vD10 : Int32) (vD11 : (Nat → Int32)) (vD12 : (Nat → Int32)) (vD13 : Int32) (vD14 : Int32) (vD15 : (Nat → Int32)) (vD16 : Int32) (vD17 : Int32) (vD18 : Int32) (vD19 : (Nat → Int32)) (vD20 : (Nat → Int32)) (vD21 : (Nat → Int32)) (vD22 : (Nat → Int32)) (i1 : Int32) (i2 : Int32) (sz : Nat) {q : (Nat → Int32)} (h : pX10_copyVerse vD0 i1 i2 = some q) : kMv l yX10_copyVerse wsX10_copyVerse ({ frames := 0, cells := 0, slots := 0, locals := 0 } : Room) D (kTy cI cC cS) [.ref aD.1, .int i1, .int i2] (wMD cC cI aD vD0 vD1 vD2 vD3 vD4 vD5 vD6 vD7 vD8 vD9 vD10 vD11 vD12 vD13 vD14 vD15 vD16 vD17 vD18 vD19 vD20 vD21 vD22) sz (wMD cC cI aD q vD1 vD2 vD3 vD4 vD5 vD6 vD7 vD8 vD9 vD10 vD11 vD12 vD13 vD14 vD15 vD16 vD17 vD18 vD19 vD20 vD21 vD22) := by
  refine Met.ofW (cc := cX10_copyVerse) (maxL := 3) (ret := none) (by decide) rfl ?_
  intro p e s m args below meth c s₁ B hml hv
  obtain ⟨rfl, hsz, hP, hK, hD0, hN⟩ := hv
  have hx := B.exec
  have hb := B.bytes
  have hr := B.returns
  have hts := atoms_spec (ws := wsX10_copyVerse) B.pre
  have hown : s.vm.findClass RX10 = some m.cls := findClass_of_methodNamed B.named
  have hlocks := B.notSynchronized
  subst hsz
  have hD := hD0.self (sz := s.heap.size)
  generalize hAe : va_A (wMD cC cI aD vD0 vD1 vD2 vD3 vD4 vD5 vD6 vD7 vD8 vD9 vD10 vD11 vD12 vD13 vD14 vD15 vD16 vD17 vD18 vD19 vD20 vD21 vD22) s.heap.size = A at hD ⊢
  have hA : ∀ q : Nat, s.heap.size ≤ q → A q := fun q h => by rw [← hAe]; exact Or.inr h
  have hS : va_S A s.heap s.heap [] := va_S.rf
  have huX10 : ∀ w ∈ u_ws RX10 TX10 23, w ∈ wsX10_copyVerse := by decide +kernel
  have hl := lv_entry ([.ref aD.1, .int i1, .int i2]) (n := 3) (Nat.le_of_ble_eq_true rfl)
  rw [lg_entry_eq]
  generalize (lg_sl ([.ref aD.1, .int i1, .int i2]) ++ List.replicate (3 - (lg_sl ([.ref aD.1, .int i1, .int i2])).length) Slot.unset).toArray = ls at hl ⊢
  have hl : lv_has ls 3 [(0, .ref aD.1), (1, .int i1), (2, .int i2)] := hl
  unfold pX10_copyVerse at h
  refine lv_aload_n hx hb dX10_copyVerse_0 rfl (lv_at hl 0 rfl) ?_
  refine va_get (D := D) (ci := 10) (v := .ref aD.2.1) (C := RX10) (T := TX10) (N := 23) hx hb hts huX10 hown hK hP 0 rfl rfl 0 (by decide) (hts (.fieldLink RX10 7 "VerseColumnsModel" "row" "[I") (by decide +kernel)) (fun _ h9 => h9) rfl dX10_copyVerse_1 ?_
  refine lv_iload_n hx hb dX10_copyVerse_4 rfl (lv_at hl 2 rfl) ?_
  refine lv_aload_n hx hb dX10_copyVerse_5 rfl (lv_at hl 0 rfl) ?_
  refine va_get (D := D) (ci := 10) (v := .ref aD.2.1) (C := RX10) (T := TX10) (N := 23) hx hb hts huX10 hown hK hP 0 rfl rfl 0 (by decide) (hts (.fieldLink RX10 7 "VerseColumnsModel" "row" "[I") (by decide +kernel)) (fun _ h9 => h9) rfl dX10_copyVerse_6 ?_
  refine lv_iload_n hx hb dX10_copyVerse_9 rfl (lv_at hl 1 rfl) ?_
  obtain ⟨g, h⟩ := kif h
  refine va_iald hx hb hK hP 1 0 rfl rfl (kin g) dX10_copyVerse_10 ?_
  obtain ⟨g, h⟩ := kif h
  refine va_iast hx hb hK hP hD hS 1 0 rfl rfl (kin g) dX10_copyVerse_11 (fun H locs hP hD hS => ?_)
  have hP : va_P D vwCl (wMD cC cI aD (upd vD0 i2.toNatClampNeg (vD0 i1.toNatClampNeg)) vD1 vD2 vD3 vD4 vD5 vD6 vD7 vD8 vD9 vD10 vD11 vD12 vD13 vD14 vD15 vD16 vD17 vD18 vD19 vD20 vD21 vD22) H := hP
  have hD : va_D A (wMD cC cI aD (upd vD0 i2.toNatClampNeg (vD0 i1.toNatClampNeg)) vD1 vD2 vD3 vD4 vD5 vD6 vD7 vD8 vD9 vD10 vD11 vD12 vD13 vD14 vD15 vD16 vD17 vD18 vD19 vD20 vD21 vD22) := hD
  refine lv_aload_n hx hb dX10_copyVerse_12 rfl (lv_at hl 0 rfl) ?_
  refine va_get (D := D) (ci := 10) (v := .ref aD.2.1) (C := RX10) (T := TX10) (N := 23) hx hb hts huX10 hown hK hP 0 rfl rfl 0 (by decide) (hts (.fieldLink RX10 7 "VerseColumnsModel" "row" "[I") (by decide +kernel)) (fun _ h9 => h9) rfl dX10_copyVerse_13 ?_
  refine lv_bipush (v := (120 : Int32)) hx hb dX10_copyVerse_16 (by decide) ?_
  refine lv_iload_n hx hb dX10_copyVerse_18 rfl (lv_at hl 2 rfl) ?_
  refine lv_iadd hx hb dX10_copyVerse_19 ?_
  refine lv_aload_n hx hb dX10_copyVerse_20 rfl (lv_at hl 0 rfl) ?_
  refine va_get (D := D) (ci := 10) (v := .ref aD.2.1) (C := RX10) (T := TX10) (N := 23) hx hb hts huX10 hown hK hP 0 rfl rfl 0 (by decide) (hts (.fieldLink RX10 7 "VerseColumnsModel" "row" "[I") (by decide +kernel)) (fun _ h9 => h9) rfl dX10_copyVerse_21 ?_
  refine lv_bipush (v := (120 : Int32)) hx hb dX10_copyVerse_24 (by decide) ?_
  refine lv_iload_n hx hb dX10_copyVerse_26 rfl (lv_at hl 1 rfl) ?_
  refine lv_iadd hx hb dX10_copyVerse_27 ?_
  obtain ⟨g, h⟩ := kif h
  refine va_iald hx hb hK hP 1 0 rfl rfl (kin g) dX10_copyVerse_28 ?_
  obtain ⟨g, h⟩ := kif h
  refine va_iast hx hb hK hP hD hS 1 0 rfl rfl (kin g) dX10_copyVerse_29 (fun H locs hP hD hS => ?_)
  have hP : va_P D vwCl (wMD cC cI aD (upd (upd vD0 i2.toNatClampNeg (vD0 i1.toNatClampNeg)) ((120 : Int32) + i2).toNatClampNeg ((upd vD0 i2.toNatClampNeg (vD0 i1.toNatClampNeg)) ((120 : Int32) + i1).toNatClampNeg)) vD1 vD2 vD3 vD4 vD5 vD6 vD7 vD8 vD9 vD10 vD11 vD12 vD13 vD14 vD15 vD16 vD17 vD18 vD19 vD20 vD21 vD22) H := hP
  have hD : va_D A (wMD cC cI aD (upd (upd vD0 i2.toNatClampNeg (vD0 i1.toNatClampNeg)) ((120 : Int32) + i2).toNatClampNeg ((upd vD0 i2.toNatClampNeg (vD0 i1.toNatClampNeg)) ((120 : Int32) + i1).toNatClampNeg)) vD1 vD2 vD3 vD4 vD5 vD6 vD7 vD8 vD9 vD10 vD11 vD12 vD13 vD14 vD15 vD16 vD17 vD18 vD19 vD20 vD21 vD22) := hD
  refine lv_aload_n hx hb dX10_copyVerse_30 rfl (lv_at hl 0 rfl) ?_
  refine va_get (D := D) (ci := 10) (v := .ref aD.2.1) (C := RX10) (T := TX10) (N := 23) hx hb hts huX10 hown hK hP 0 rfl rfl 0 (by decide) (hts (.fieldLink RX10 7 "VerseColumnsModel" "row" "[I") (by decide +kernel)) (fun _ h9 => h9) rfl dX10_copyVerse_31 ?_
  refine lv_sipush (v := (240 : Int32)) hx hb dX10_copyVerse_34 (by decide) ?_
  refine lv_iload_n hx hb dX10_copyVerse_37 rfl (lv_at hl 2 rfl) ?_
  refine lv_iadd hx hb dX10_copyVerse_38 ?_
  refine lv_aload_n hx hb dX10_copyVerse_39 rfl (lv_at hl 0 rfl) ?_
  refine va_get (D := D) (ci := 10) (v := .ref aD.2.1) (C := RX10) (T := TX10) (N := 23) hx hb hts huX10 hown hK hP 0 rfl rfl 0 (by decide) (hts (.fieldLink RX10 7 "VerseColumnsModel" "row" "[I") (by decide +kernel)) (fun _ h9 => h9) rfl dX10_copyVerse_40 ?_
  refine lv_sipush (v := (240 : Int32)) hx hb dX10_copyVerse_43 (by decide) ?_
  refine lv_iload_n hx hb dX10_copyVerse_46 rfl (lv_at hl 1 rfl) ?_
  refine lv_iadd hx hb dX10_copyVerse_47 ?_
  obtain ⟨g, h⟩ := kif h
  refine va_iald hx hb hK hP 1 0 rfl rfl (kin g) dX10_copyVerse_48 ?_
  obtain ⟨g, h⟩ := kif h
  refine va_iast hx hb hK hP hD hS 1 0 rfl rfl (kin g) dX10_copyVerse_49 (fun H locs hP hD hS => ?_)
  have hP : va_P D vwCl (wMD cC cI aD (upd (upd (upd vD0 i2.toNatClampNeg (vD0 i1.toNatClampNeg)) ((120 : Int32) + i2).toNatClampNeg ((upd vD0 i2.toNatClampNeg (vD0 i1.toNatClampNeg)) ((120 : Int32) + i1).toNatClampNeg)) ((240 : Int32) + i2).toNatClampNeg ((upd (upd vD0 i2.toNatClampNeg (vD0 i1.toNatClampNeg)) ((120 : Int32) + i2).toNatClampNeg ((upd vD0 i2.toNatClampNeg (vD0 i1.toNatClampNeg)) ((120 : Int32) + i1).toNatClampNeg)) ((240 : Int32) + i1).toNatClampNeg)) vD1 vD2 vD3 vD4 vD5 vD6 vD7 vD8 vD9 vD10 vD11 vD12 vD13 vD14 vD15 vD16 vD17 vD18 vD19 vD20 vD21 vD22) H := hP
  have hD : va_D A (wMD cC cI aD (upd (upd (upd vD0 i2.toNatClampNeg (vD0 i1.toNatClampNeg)) ((120 : Int32) + i2).toNatClampNeg ((upd vD0 i2.toNatClampNeg (vD0 i1.toNatClampNeg)) ((120 : Int32) + i1).toNatClampNeg)) ((240 : Int32) + i2).toNatClampNeg ((upd (upd vD0 i2.toNatClampNeg (vD0 i1.toNatClampNeg)) ((120 : Int32) + i2).toNatClampNeg ((upd vD0 i2.toNatClampNeg (vD0 i1.toNatClampNeg)) ((120 : Int32) + i1).toNatClampNeg)) ((240 : Int32) + i1).toNatClampNeg)) vD1 vD2 vD3 vD4 vD5 vD6 vD7 vD8 vD9 vD10 vD11 vD12 vD13 vD14 vD15 vD16 vD17 vD18 vD19 vD20 vD21 vD22) := hD
  obtain rfl := Option.some.inj h
  exact W.vret hx hb hr (fun t ht hW => ⟨⟨(), rfl, trivial, by rw [ht]; exact hP, hD⟩, hS.F ht⟩) hS.2.2 dX10_copyVerse_50
