-- walks: ref (printed by wip/whole/gen)
set_option maxHeartbeats 8000000 in
set_option maxRecDepth 100000 in
theorem kX10_layPages (l : Launch) (D : va_G) (cI cC cS : ClassId) (aD : Nat × Nat × Nat × Nat × Nat × Nat × Nat × Nat × Nat × Nat × Nat) (vD0 : (Nat → Int32)) (vD1 : (Nat → Int32)) (vD2 : Int32) (vD3 : Int32) (vD4 : (Nat → Int32)) (vD5 : Int32) (vD6 : Int32) (vD7 : Int32) (vD8 : Int32) (vD9 : Int32) (vD10 : Int32) (vD11 : (Nat → Int32)) (vD12 : (Nat → Int32)) (vD13 : Int32) (vD14 : Int32) (vD15 : (Nat → Int32)) (vD16 : Int32) (vD17 : Int32) (vD18 : Int32) (vD19 : (Nat → Int32)) (vD20 : (Nat → Int32)) (vD21 : (Nat → Int32)) (vD22 : (Nat → Int32)) (sz : Nat) {q : Int32 × (Nat → Int32) × (Nat → Int32) × (Nat → Int32) × (Nat → Int32)} (h : pX10_layPages vD0 vD15 vD16 vD17 vD19 vD20 vD21 vD22 = some q) : kMv l yX10_layPages wsX10_layPages ({ frames := 4, cells := 0, slots := 0, locals := 95 } : Room) D (kTy cI cC cS) [.ref aD.1] (wMD cC cI aD vD0 vD1 vD2 vD3 vD4 vD5 vD6 vD7 vD8 vD9 vD10 vD11 vD12 vD13 vD14 vD15 vD16 vD17 vD18 vD19 vD20 vD21 vD22) sz (wMD cC cI aD vD0 vD1 vD2 vD3 vD4 vD5 vD6 vD7 vD8 vD9 vD10 vD11 vD12 vD13 vD14 vD15 vD16 vD17 q.1 q.2.1 q.2.2.1 q.2.2.2.1 q.2.2.2.2) := by
  refine Met.ofW (cc := cX10_layPages) (maxL := 5) (ret := none) (by decide) rfl ?_
  intro p e s m args below meth c s₁ B hml hv
  obtain ⟨rfl, hsz, hP, hK, hD0, hN⟩ := hv
  have hx := B.exec
  have hb := B.bytes
  have hr := B.returns
  have hts := atoms_spec (ws := wsX10_layPages) B.pre
  have hown : s.vm.findClass RX10 = some m.cls := findClass_of_methodNamed B.named
  have hlocks := B.notSynchronized
  subst hsz
  have hD := hD0.self (sz := s.heap.size)
  generalize hAe : va_A (wMD cC cI aD vD0 vD1 vD2 vD3 vD4 vD5 vD6 vD7 vD8 vD9 vD10 vD11 vD12 vD13 vD14 vD15 vD16 vD17 vD18 vD19 vD20 vD21 vD22) s.heap.size = A at hD ⊢
  have hA : ∀ q : Nat, s.heap.size ≤ q → A q := fun q h => by rw [← hAe]; exact Or.inr h
  have hS : va_S A s.heap s.heap [] := va_S.rf
  have huX10 : ∀ w ∈ u_ws RX10 TX10 23, w ∈ wsX10_layPages := by decide +kernel
  have hl := lv_entry ([.ref aD.1]) (n := 5) (Nat.le_of_ble_eq_true rfl)
  rw [lg_entry_eq]
  generalize (lg_sl ([.ref aD.1]) ++ List.replicate (5 - (lg_sl ([.ref aD.1])).length) Slot.unset).toArray = ls at hl ⊢
  have hl : lv_has ls 5 [(0, .ref aD.1)] := hl
  have L7 : ∀ (nL7 : Nat) (c0_18 : Int32) (c0_19 : (Nat → Int32)) (c0_20 : (Nat → Int32)) (c0_21 : (Nat → Int32)) (c0_22 : (Nat → Int32)) (y1 : Int32) (H : Heap) (locs : List Loc) (ls : Array Slot), pX10_layPages_L7 vD0 vD15 vD16 vD17 nL7 c0_18 c0_19 c0_20 c0_21 c0_22 y1 = some q → va_P D vwCl (wMD cC cI aD vD0 vD1 vD2 vD3 vD4 vD5 vD6 vD7 vD8 vD9 vD10 vD11 vD12 vD13 vD14 vD15 vD16 vD17 c0_18 c0_19 c0_20 c0_21 c0_22) H → va_D A (wMD cC cI aD vD0 vD1 vD2 vD3 vD4 vD5 vD6 vD7 vD8 vD9 vD10 vD11 vD12 vD13 vD14 vD15 vD16 vD17 c0_18 c0_19 c0_20 c0_21 c0_22) → va_S A s.heap H locs → lv_has ls 5 [(0, .ref aD.1), (1, .int y1)] → W p l e ({ frames := 4, cells := 0, slots := 0, locals := 95 } : Room) s m ([.ref aD.1] : List Value).toArray below meth c H locs 0 0 (MQ below (va_Qv (fun (_ : Unit) => True) (fun _ => kPost D (wMD cC cI aD vD0 vD1 vD2 vD3 vD4 vD5 vD6 vD7 vD8 vD9 vD10 vD11 vD12 vD13 vD14 vD15 vD16 vD17 q.1 q.2.1 q.2.2.1 q.2.2.2.1 q.2.2.2.2) A) A) ([.ref aD.1] : List Value).toArray s 0 0 A) (F0 m 7 ls []) := by
    clear h hP hD hS hl
    intro nL7
    induction nL7 with
    | zero => intro c0_18 c0_19 c0_20 c0_21 c0_22 y1 H locs ls h; have h : (none : Option (Int32 × (Nat → Int32) × (Nat → Int32) × (Nat → Int32) × (Nat → Int32))) = some q := h; cases h
    | succ nL7 ihL7 =>
      have j103 : ∀ (c0_18 : Int32) (c0_19 : (Nat → Int32)) (c0_20 : (Nat → Int32)) (c0_21 : (Nat → Int32)) (c0_22 : (Nat → Int32)) (y1 : Int32) (y2 : Int32) (y3 : Int32) (y4 : Int32) (H : Heap) (locs : List Loc) (ls : Array Slot), pX10_layPages_j103 vD0 vD15 vD16 vD17 (pX10_layPages_L7 vD0 vD15 vD16 vD17 nL7) c0_18 c0_19 c0_20 c0_21 c0_22 y1 y2 y3 y4 = some q → va_P D vwCl (wMD cC cI aD vD0 vD1 vD2 vD3 vD4 vD5 vD6 vD7 vD8 vD9 vD10 vD11 vD12 vD13 vD14 vD15 vD16 vD17 c0_18 c0_19 c0_20 c0_21 c0_22) H → va_D A (wMD cC cI aD vD0 vD1 vD2 vD3 vD4 vD5 vD6 vD7 vD8 vD9 vD10 vD11 vD12 vD13 vD14 vD15 vD16 vD17 c0_18 c0_19 c0_20 c0_21 c0_22) → va_S A s.heap H locs → lv_has ls 5 [(0, .ref aD.1), (1, .int y1), (2, .int y2), (3, .int y3), (4, .int y4)] → W p l e ({ frames := 4, cells := 0, slots := 0, locals := 95 } : Room) s m ([.ref aD.1] : List Value).toArray below meth c H locs 0 0 (MQ below (va_Qv (fun (_ : Unit) => True) (fun _ => kPost D (wMD cC cI aD vD0 vD1 vD2 vD3 vD4 vD5 vD6 vD7 vD8 vD9 vD10 vD11 vD12 vD13 vD14 vD15 vD16 vD17 q.1 q.2.1 q.2.2.1 q.2.2.2.1 q.2.2.2.2) A) A) ([.ref aD.1] : List Value).toArray s 0 0 A) (F0 m 103 ls []) := by
        skip
        intro c0_18 c0_19 c0_20 c0_21 c0_22 y1 y2 y3 y4 H locs ls h hP hD hS hl
        unfold pX10_layPages_j103 at h
        refine lv_aload_n hx hb dX10_layPages_103 rfl (lv_at hl 0 rfl) ?_
        refine va_get (D := D) (ci := 10) (v := .ref aD.2.2.2.2.2.2.2.1) (C := RX10) (T := TX10) (N := 23) hx hb hts huX10 hown hK hP 0 rfl rfl 19 (by decide) (hts (.fieldLink RX10 36 "VerseColumnsModel" "pageOf" "[I") (by decide +kernel)) (fun _ h9 => h9) rfl dX10_layPages_104 ?_
        refine lv_iload_n hx hb dX10_layPages_107 rfl (lv_at hl 1 rfl) ?_
        refine lv_iload hx hb dX10_layPages_108 (lv_at hl 4 rfl) ?_
        obtain ⟨g, h⟩ := kif h
        refine va_iast hx hb hK hP hD hS 7 0 rfl rfl (kin g) dX10_layPages_110 (fun H locs hP hD hS => ?_)
        have hP : va_P D vwCl (wMD cC cI aD vD0 vD1 vD2 vD3 vD4 vD5 vD6 vD7 vD8 vD9 vD10 vD11 vD12 vD13 vD14 vD15 vD16 vD17 c0_18 (upd c0_19 y1.toNatClampNeg y4) c0_20 c0_21 c0_22) H := hP
        have hD : va_D A (wMD cC cI aD vD0 vD1 vD2 vD3 vD4 vD5 vD6 vD7 vD8 vD9 vD10 vD11 vD12 vD13 vD14 vD15 vD16 vD17 c0_18 (upd c0_19 y1.toNatClampNeg y4) c0_20 c0_21 c0_22) := hD
        refine lv_aload_n hx hb dX10_layPages_111 rfl (lv_at hl 0 rfl) ?_
        refine va_get (D := D) (ci := 10) (v := .ref aD.2.2.2.2.2.2.2.2.1) (C := RX10) (T := TX10) (N := 23) hx hb hts huX10 hown hK hP 0 rfl rfl 20 (by decide) (hts (.fieldLink RX10 39 "VerseColumnsModel" "lineOf" "[I") (by decide +kernel)) (fun _ h9 => h9) rfl dX10_layPages_112 ?_
        refine lv_iload_n hx hb dX10_layPages_115 rfl (lv_at hl 1 rfl) ?_
        refine lv_aload_n hx hb dX10_layPages_116 rfl (lv_at hl 0 rfl) ?_
        refine va_get (D := D) (ci := 10) (v := .ref aD.2.2.2.2.2.2.2.2.2.1) (C := RX10) (T := TX10) (N := 23) hx hb hts huX10 hown hK hP 0 rfl rfl 21 (by decide) (hts (.fieldLink RX10 42 "VerseColumnsModel" "heightOn" "[I") (by decide +kernel)) (fun _ h9 => h9) rfl dX10_layPages_117 ?_
        refine lv_iload hx hb dX10_layPages_120 (lv_at hl 4 rfl) ?_
        obtain ⟨g, h⟩ := kif h
        refine va_iald hx hb hK hP 9 0 rfl rfl (kin g) dX10_layPages_122 ?_
        obtain ⟨g, h⟩ := kif h
        refine va_iast hx hb hK hP hD hS 8 0 rfl rfl (kin g) dX10_layPages_123 (fun H locs hP hD hS => ?_)
        have hP : va_P D vwCl (wMD cC cI aD vD0 vD1 vD2 vD3 vD4 vD5 vD6 vD7 vD8 vD9 vD10 vD11 vD12 vD13 vD14 vD15 vD16 vD17 c0_18 (upd c0_19 y1.toNatClampNeg y4) (upd c0_20 y1.toNatClampNeg (c0_21 y4.toNatClampNeg)) c0_21 c0_22) H := hP
        have hD : va_D A (wMD cC cI aD vD0 vD1 vD2 vD3 vD4 vD5 vD6 vD7 vD8 vD9 vD10 vD11 vD12 vD13 vD14 vD15 vD16 vD17 c0_18 (upd c0_19 y1.toNatClampNeg y4) (upd c0_20 y1.toNatClampNeg (c0_21 y4.toNatClampNeg)) c0_21 c0_22) := hD
        refine lv_aload_n hx hb dX10_layPages_124 rfl (lv_at hl 0 rfl) ?_
        refine va_get (D := D) (ci := 10) (v := .ref aD.2.2.2.2.2.2.2.2.2.1) (C := RX10) (T := TX10) (N := 23) hx hb hts huX10 hown hK hP 0 rfl rfl 21 (by decide) (hts (.fieldLink RX10 42 "VerseColumnsModel" "heightOn" "[I") (by decide +kernel)) (fun _ h9 => h9) rfl dX10_layPages_125 ?_
        refine lv_iload hx hb dX10_layPages_128 (lv_at hl 4 rfl) ?_
        refine lv_dup2_11 hx hb dX10_layPages_130 rfl rfl ?_
        obtain ⟨g, h⟩ := kif h
        refine va_iald hx hb hK hP 9 0 rfl rfl (kin g) dX10_layPages_131 ?_
        refine lv_iload_n hx hb dX10_layPages_132 rfl (lv_at hl 2 rfl) ?_
        refine lv_iadd hx hb dX10_layPages_133 ?_
        obtain ⟨g, h⟩ := kif h
        refine va_iast hx hb hK hP hD hS 9 0 rfl rfl (kin g) dX10_layPages_134 (fun H locs hP hD hS => ?_)
        have hP : va_P D vwCl (wMD cC cI aD vD0 vD1 vD2 vD3 vD4 vD5 vD6 vD7 vD8 vD9 vD10 vD11 vD12 vD13 vD14 vD15 vD16 vD17 c0_18 (upd c0_19 y1.toNatClampNeg y4) (upd c0_20 y1.toNatClampNeg (c0_21 y4.toNatClampNeg)) (upd c0_21 y4.toNatClampNeg ((c0_21 y4.toNatClampNeg) + y2)) c0_22) H := hP
        have hD : va_D A (wMD cC cI aD vD0 vD1 vD2 vD3 vD4 vD5 vD6 vD7 vD8 vD9 vD10 vD11 vD12 vD13 vD14 vD15 vD16 vD17 c0_18 (upd c0_19 y1.toNatClampNeg y4) (upd c0_20 y1.toNatClampNeg (c0_21 y4.toNatClampNeg)) (upd c0_21 y4.toNatClampNeg ((c0_21 y4.toNatClampNeg) + y2)) c0_22) := hD
        refine lv_aload_n hx hb dX10_layPages_135 rfl (lv_at hl 0 rfl) ?_
        refine va_get (D := D) (ci := 10) (v := .ref aD.2.2.2.2.2.2.2.2.2.2) (C := RX10) (T := TX10) (N := 23) hx hb hts huX10 hown hK hP 0 rfl rfl 22 (by decide) (hts (.fieldLink RX10 45 "VerseColumnsModel" "notesOn" "[I") (by decide +kernel)) (fun _ h9 => h9) rfl dX10_layPages_136 ?_
        refine lv_iload hx hb dX10_layPages_139 (lv_at hl 4 rfl) ?_
        refine lv_dup2_11 hx hb dX10_layPages_141 rfl rfl ?_
        obtain ⟨g, h⟩ := kif h
        refine va_iald hx hb hK hP 10 0 rfl rfl (kin g) dX10_layPages_142 ?_
        refine lv_iload_n hx hb dX10_layPages_143 rfl (lv_at hl 3 rfl) ?_
        refine lv_iadd hx hb dX10_layPages_144 ?_
        obtain ⟨g, h⟩ := kif h
        refine va_iast hx hb hK hP hD hS 10 0 rfl rfl (kin g) dX10_layPages_145 (fun H locs hP hD hS => ?_)
        have hP : va_P D vwCl (wMD cC cI aD vD0 vD1 vD2 vD3 vD4 vD5 vD6 vD7 vD8 vD9 vD10 vD11 vD12 vD13 vD14 vD15 vD16 vD17 c0_18 (upd c0_19 y1.toNatClampNeg y4) (upd c0_20 y1.toNatClampNeg (c0_21 y4.toNatClampNeg)) (upd c0_21 y4.toNatClampNeg ((c0_21 y4.toNatClampNeg) + y2)) (upd c0_22 y4.toNatClampNeg ((c0_22 y4.toNatClampNeg) + y3))) H := hP
        have hD : va_D A (wMD cC cI aD vD0 vD1 vD2 vD3 vD4 vD5 vD6 vD7 vD8 vD9 vD10 vD11 vD12 vD13 vD14 vD15 vD16 vD17 c0_18 (upd c0_19 y1.toNatClampNeg y4) (upd c0_20 y1.toNatClampNeg (c0_21 y4.toNatClampNeg)) (upd c0_21 y4.toNatClampNeg ((c0_21 y4.toNatClampNeg) + y2)) (upd c0_22 y4.toNatClampNeg ((c0_22 y4.toNatClampNeg) + y3))) := hD
        refine lv_iinc (v := (y1 + (1 : Int32))) (lv' := [(1, .int (y1 + (1 : Int32))), (0, .ref aD.1), (2, .int y2), (3, .int y3), (4, .int y4)]) hx hb dX10_layPages_146 hl (k := 1) rfl rfl (by decide) rfl (fun ls hl => ?_)
        refine lv_goto (tgt := 7) hx hb dX10_layPages_149 (by decide) ?_
        exact ihL7 c0_18 (upd c0_19 y1.toNatClampNeg y4) (upd c0_20 y1.toNatClampNeg (c0_21 y4.toNatClampNeg)) (upd c0_21 y4.toNatClampNeg ((c0_21 y4.toNatClampNeg) + y2)) (upd c0_22 y4.toNatClampNeg ((c0_22 y4.toNatClampNeg) + y3)) (y1 + (1 : Int32)) _ _ _ h hP hD hS (lv_sub hl [1, 0] rfl)
      have j71 : ∀ (c0_18 : Int32) (c0_19 : (Nat → Int32)) (c0_20 : (Nat → Int32)) (c0_21 : (Nat → Int32)) (c0_22 : (Nat → Int32)) (y1 : Int32) (y2 : Int32) (y3 : Int32) (H : Heap) (locs : List Loc) (ls : Array Slot), pX10_layPages_j71 vD0 vD15 vD16 vD17 (pX10_layPages_L7 vD0 vD15 vD16 vD17 nL7) c0_18 c0_19 c0_20 c0_21 c0_22 y1 y2 y3 = some q → va_P D vwCl (wMD cC cI aD vD0 vD1 vD2 vD3 vD4 vD5 vD6 vD7 vD8 vD9 vD10 vD11 vD12 vD13 vD14 vD15 vD16 vD17 c0_18 c0_19 c0_20 c0_21 c0_22) H → va_D A (wMD cC cI aD vD0 vD1 vD2 vD3 vD4 vD5 vD6 vD7 vD8 vD9 vD10 vD11 vD12 vD13 vD14 vD15 vD16 vD17 c0_18 c0_19 c0_20 c0_21 c0_22) → va_S A s.heap H locs → lv_has ls 5 [(0, .ref aD.1), (1, .int y1), (2, .int y2), (3, .int y3)] → W p l e ({ frames := 4, cells := 0, slots := 0, locals := 95 } : Room) s m ([.ref aD.1] : List Value).toArray below meth c H locs 0 0 (MQ below (va_Qv (fun (_ : Unit) => True) (fun _ => kPost D (wMD cC cI aD vD0 vD1 vD2 vD3 vD4 vD5 vD6 vD7 vD8 vD9 vD10 vD11 vD12 vD13 vD14 vD15 vD16 vD17 q.1 q.2.1 q.2.2.1 q.2.2.2.1 q.2.2.2.2) A) A) ([.ref aD.1] : List Value).toArray s 0 0 A) (F0 m 71 ls []) := by
        skip
        intro c0_18 c0_19 c0_20 c0_21 c0_22 y1 y2 y3 H locs ls h hP hD hS hl
        unfold pX10_layPages_j71 at h
        refine lv_aload_n hx hb dX10_layPages_71 rfl (lv_at hl 0 rfl) ?_
        refine va_get (D := D) (ci := 10) (v := .int c0_18) (C := RX10) (T := TX10) (N := 23) hx hb hts huX10 hown hK hP 0 rfl rfl 18 (by decide) (hts (.fieldLink RX10 171 "VerseColumnsModel" "pages" "I") (by decide +kernel)) (fun _ h9 => h9) rfl dX10_layPages_72 ?_
        refine lv_istore (lv' := [(4, .int c0_18), (0, .ref aD.1), (1, .int y1), (2, .int y2), (3, .int y3)]) hx hb dX10_layPages_75 hl (by decide) rfl (fun ls hl => ?_)
        refine lv_aload_n hx hb dX10_layPages_77 rfl (lv_at hl 1 rfl) ?_
        refine va_get (D := D) (ci := 10) (v := .ref aD.2.2.2.2.2.2.2.2.2.1) (C := RX10) (T := TX10) (N := 23) hx hb hts huX10 hown hK hP 0 rfl rfl 21 (by decide) (hts (.fieldLink RX10 42 "VerseColumnsModel" "heightOn" "[I") (by decide +kernel)) (fun _ h9 => h9) rfl dX10_layPages_78 ?_
        refine lv_iload hx hb dX10_layPages_81 (lv_at hl 0 rfl) ?_
        refine lv_iconst (v := (0 : Int32)) hx hb dX10_layPages_83 (by decide) ?_
        obtain ⟨g, h⟩ := kif h
        refine va_iast hx hb hK hP hD hS 9 0 rfl rfl (kin g) dX10_layPages_84 (fun H locs hP hD hS => ?_)
        have hP : va_P D vwCl (wMD cC cI aD vD0 vD1 vD2 vD3 vD4 vD5 vD6 vD7 vD8 vD9 vD10 vD11 vD12 vD13 vD14 vD15 vD16 vD17 c0_18 c0_19 c0_20 (upd c0_21 c0_18.toNatClampNeg (0 : Int32)) c0_22) H := hP
        have hD : va_D A (wMD cC cI aD vD0 vD1 vD2 vD3 vD4 vD5 vD6 vD7 vD8 vD9 vD10 vD11 vD12 vD13 vD14 vD15 vD16 vD17 c0_18 c0_19 c0_20 (upd c0_21 c0_18.toNatClampNeg (0 : Int32)) c0_22) := hD
        refine lv_aload_n hx hb dX10_layPages_85 rfl (lv_at hl 1 rfl) ?_
        refine va_get (D := D) (ci := 10) (v := .ref aD.2.2.2.2.2.2.2.2.2.2) (C := RX10) (T := TX10) (N := 23) hx hb hts huX10 hown hK hP 0 rfl rfl 22 (by decide) (hts (.fieldLink RX10 45 "VerseColumnsModel" "notesOn" "[I") (by decide +kernel)) (fun _ h9 => h9) rfl dX10_layPages_86 ?_
        refine lv_iload hx hb dX10_layPages_89 (lv_at hl 0 rfl) ?_
        refine lv_iconst (v := (0 : Int32)) hx hb dX10_layPages_91 (by decide) ?_
        obtain ⟨g, h⟩ := kif h
        refine va_iast hx hb hK hP hD hS 10 0 rfl rfl (kin g) dX10_layPages_92 (fun H locs hP hD hS => ?_)
        have hP : va_P D vwCl (wMD cC cI aD vD0 vD1 vD2 vD3 vD4 vD5 vD6 vD7 vD8 vD9 vD10 vD11 vD12 vD13 vD14 vD15 vD16 vD17 c0_18 c0_19 c0_20 (upd c0_21 c0_18.toNatClampNeg (0 : Int32)) (upd c0_22 c0_18.toNatClampNeg (0 : Int32))) H := hP
        have hD : va_D A (wMD cC cI aD vD0 vD1 vD2 vD3 vD4 vD5 vD6 vD7 vD8 vD9 vD10 vD11 vD12 vD13 vD14 vD15 vD16 vD17 c0_18 c0_19 c0_20 (upd c0_21 c0_18.toNatClampNeg (0 : Int32)) (upd c0_22 c0_18.toNatClampNeg (0 : Int32))) := hD
        refine lv_aload_n hx hb dX10_layPages_93 rfl (lv_at hl 1 rfl) ?_
        refine lv_dup hx hb dX10_layPages_94 rfl ?_
        refine va_get (D := D) (ci := 10) (v := .int c0_18) (C := RX10) (T := TX10) (N := 23) hx hb hts huX10 hown hK hP 0 rfl rfl 18 (by decide) (hts (.fieldLink RX10 171 "VerseColumnsModel" "pages" "I") (by decide +kernel)) (fun _ h9 => h9) rfl dX10_layPages_95 ?_
        refine lv_iconst (v := (1 : Int32)) hx hb dX10_layPages_98 (by decide) ?_
        refine lv_iadd hx hb dX10_layPages_99 ?_
        refine va_put (D := D) (ci := 10) (v := .int (c0_18 + (1 : Int32))) (ty := .int) (C := RX10) (T := TX10) (N := 23) hx hb hts huX10 tyX10 tyX10_ok nmX10 hown hK hP hD hS 0 rfl rfl 18 (by decide) (hts (.fieldLink RX10 171 "VerseColumnsModel" "pages" "I") (by decide +kernel)) (fun _ h9 => h9) rfl (by decide +kernel) rfl rfl (Nat.le_of_ble_eq_true rfl) dX10_layPages_100 (fun H locs hP hD hS => ?_)
        have hP : va_P D vwCl (wMD cC cI aD vD0 vD1 vD2 vD3 vD4 vD5 vD6 vD7 vD8 vD9 vD10 vD11 vD12 vD13 vD14 vD15 vD16 vD17 (c0_18 + (1 : Int32)) c0_19 c0_20 (upd c0_21 c0_18.toNatClampNeg (0 : Int32)) (upd c0_22 c0_18.toNatClampNeg (0 : Int32))) H := hP
        have hD : va_D A (wMD cC cI aD vD0 vD1 vD2 vD3 vD4 vD5 vD6 vD7 vD8 vD9 vD10 vD11 vD12 vD13 vD14 vD15 vD16 vD17 (c0_18 + (1 : Int32)) c0_19 c0_20 (upd c0_21 c0_18.toNatClampNeg (0 : Int32)) (upd c0_22 c0_18.toNatClampNeg (0 : Int32))) := hD
        exact j103 (c0_18 + (1 : Int32)) c0_19 c0_20 (upd c0_21 c0_18.toNatClampNeg (0 : Int32)) (upd c0_22 c0_18.toNatClampNeg (0 : Int32)) y1 y2 y3 c0_18 _ _ _ h hP hD hS (lv_sub hl [1, 2, 3, 4, 0] rfl)
      intro c0_18 c0_19 c0_20 c0_21 c0_22 y1 H locs ls h hP hD hS hl
      have h : pX10_layPages_bL7 vD0 vD15 vD16 vD17 (pX10_layPages_L7 vD0 vD15 vD16 vD17 nL7) c0_18 c0_19 c0_20 c0_21 c0_22 y1 = some q := h
      unfold pX10_layPages_bL7 at h
      refine lv_iload_n hx hb dX10_layPages_7 rfl (lv_at hl 1 rfl) ?_
      refine lv_aload_n hx hb dX10_layPages_8 rfl (lv_at hl 0 rfl) ?_
      obtain ⟨q2, h1, h⟩ := Option.bind_eq_some_iff.mp h
      refine kcir [0, 1, 2, 3, 4, 5, 6, 7, 8, 9, 10] (va_runV (As := []) (rest := [.int y1]) ⟨hx, hb, hml, hown, hts⟩ (kX10_groups l D cI cC cS aD vD0 vD1 vD2 vD3 vD4 vD5 vD6 vD7 vD8 vD9 vD10 vD11 vD12 vD13 vD14 vD15 vD16 vD17 c0_18 c0_19 c0_20 c0_21 c0_22 H.size h1) (cwV 0 hts gX10_layPages_X10_groups rfl rfl rfl (by decide +kernel) ⟨Nat.le_of_ble_eq_true rfl, Nat.le_of_ble_eq_true rfl⟩) (kpreV hK hN hP hD [0, 1, 2, 3, 4, 5, 6, 7, 8, 9, 10] rfl (by decide) 10 rfl rfl) rfl rfl hl.1 rfl (lv_room (Nat.le_of_ble_eq_true rfl)) dX10_layPages_9 ⟨Nat.le_refl _, Nat.le_refl _⟩) hP hD hS hA rfl (fun H locs hP hS => ?_)
      refine lv_icmp_ge (tgt := 152) hx hb dX10_layPages_12 (by decide) (fun g => ?_) (fun g => ?_)
      · rw [if_pos g] at h
        obtain rfl := Option.some.inj h
        exact W.vret hx hb hr (fun t ht hW => ⟨⟨(), rfl, trivial, by rw [ht]; exact hP, hD⟩, hS.F ht⟩) hS.2.2 dX10_layPages_152
      · rw [if_neg g] at h
        refine lv_aload_n hx hb dX10_layPages_15 rfl (lv_at hl 0 rfl) ?_
        refine lv_iload_n hx hb dX10_layPages_16 rfl (lv_at hl 1 rfl) ?_
        obtain ⟨q4, h3, h⟩ := Option.bind_eq_some_iff.mp h
        refine kcir [0, 1, 2, 3, 4, 5, 6, 7, 8, 9, 10] (va_runV (As := [.int y1]) (rest := []) ⟨hx, hb, hml, hown, hts⟩ (kX10_heightOf l D cI cC cS aD vD0 vD1 vD2 vD3 vD4 vD5 vD6 vD7 vD8 vD9 vD10 vD11 vD12 vD13 vD14 vD15 vD16 vD17 c0_18 c0_19 c0_20 c0_21 c0_22 y1 H.size h3) (cwV 1 hts gX10_layPages_X10_heightOf rfl rfl rfl (by decide +kernel) ⟨Nat.le_of_ble_eq_true rfl, Nat.le_of_ble_eq_true rfl⟩) (kpreV hK hN hP hD [0, 1, 2, 3, 4, 5, 6, 7, 8, 9, 10] rfl (by decide) 10 rfl rfl) rfl rfl hl.1 rfl (lv_room (Nat.le_of_ble_eq_true rfl)) dX10_layPages_17 ⟨Nat.le_refl _, Nat.le_refl _⟩) hP hD hS hA rfl (fun H locs hP hS => ?_)
        refine lv_istore_n (lv' := [(2, .int q4), (0, .ref aD.1), (1, .int y1)]) hx hb dX10_layPages_20 rfl hl (by decide) rfl (fun ls hl => ?_)
        refine lv_aload_n hx hb dX10_layPages_21 rfl (lv_at hl 1 rfl) ?_
        refine lv_iload_n hx hb dX10_layPages_22 rfl (lv_at hl 2 rfl) ?_
        obtain ⟨q6, h5, h⟩ := Option.bind_eq_some_iff.mp h
        refine kcir [0, 1, 2, 3, 4, 5, 6, 7, 8, 9, 10] (va_runV (As := [.int y1]) (rest := []) ⟨hx, hb, hml, hown, hts⟩ (kX10_notesOf l D cI cC cS aD vD0 vD1 vD2 vD3 vD4 vD5 vD6 vD7 vD8 vD9 vD10 vD11 vD12 vD13 vD14 vD15 vD16 vD17 c0_18 c0_19 c0_20 c0_21 c0_22 y1 H.size h5) (cwV 1 hts gX10_layPages_X10_notesOf rfl rfl rfl (by decide +kernel) ⟨Nat.le_of_ble_eq_true rfl, Nat.le_of_ble_eq_true rfl⟩) (kpreV hK hN hP hD [0, 1, 2, 3, 4, 5, 6, 7, 8, 9, 10] rfl (by decide) 10 rfl rfl) rfl rfl hl.1 rfl (lv_room (Nat.le_of_ble_eq_true rfl)) dX10_layPages_23 ⟨Nat.le_refl _, Nat.le_refl _⟩) hP hD hS hA rfl (fun H locs hP hS => ?_)
        refine lv_istore_n (lv' := [(3, .int q6), (2, .int q4), (0, .ref aD.1), (1, .int y1)]) hx hb dX10_layPages_26 rfl hl (by decide) rfl (fun ls hl => ?_)
        refine lv_aload_n hx hb dX10_layPages_27 rfl (lv_at hl 2 rfl) ?_
        refine va_get (D := D) (ci := 10) (v := .int c0_18) (C := RX10) (T := TX10) (N := 23) hx hb hts huX10 hown hK hP 0 rfl rfl 18 (by decide) (hts (.fieldLink RX10 171 "VerseColumnsModel" "pages" "I") (by decide +kernel)) (fun _ h9 => h9) rfl dX10_layPages_28 ?_
        refine lv_iconst (v := (1 : Int32)) hx hb dX10_layPages_31 (by decide) ?_
        refine lv_isub hx hb dX10_layPages_32 ?_
        refine lv_istore (lv' := [(4, .int (c0_18 - (1 : Int32))), (3, .int q6), (2, .int q4), (0, .ref aD.1), (1, .int y1)]) hx hb dX10_layPages_33 hl (by decide) rfl (fun ls hl => ?_)
        refine lv_aload_n hx hb dX10_layPages_35 rfl (lv_at hl 3 rfl) ?_
        refine va_get (D := D) (ci := 10) (v := .int c0_18) (C := RX10) (T := TX10) (N := 23) hx hb hts huX10 hown hK hP 0 rfl rfl 18 (by decide) (hts (.fieldLink RX10 171 "VerseColumnsModel" "pages" "I") (by decide +kernel)) (fun _ h9 => h9) rfl dX10_layPages_36 ?_
        refine lv_if_eq (tgt := 71) hx hb dX10_layPages_39 (by decide) (fun g => ?_) (fun g => ?_)
        · rw [if_pos g] at h
          exact j71 c0_18 c0_19 c0_20 c0_21 c0_22 y1 q4 q6 _ _ _ h hP hD hS (lv_sub hl [3, 4, 2, 1] rfl)
        · rw [if_neg g] at h
          refine lv_aload_n hx hb dX10_layPages_42 rfl (lv_at hl 3 rfl) ?_
          refine va_get (D := D) (ci := 10) (v := .ref aD.2.2.2.2.2.2.2.2.2.1) (C := RX10) (T := TX10) (N := 23) hx hb hts huX10 hown hK hP 0 rfl rfl 21 (by decide) (hts (.fieldLink RX10 42 "VerseColumnsModel" "heightOn" "[I") (by decide +kernel)) (fun _ h9 => h9) rfl dX10_layPages_43 ?_
          refine lv_iload hx hb dX10_layPages_46 (lv_at hl 0 rfl) ?_
          obtain ⟨g, h⟩ := kif h
          refine va_iald hx hb hK hP 9 0 rfl rfl (kin g) dX10_layPages_48 ?_
          refine lv_iload_n hx hb dX10_layPages_49 rfl (lv_at hl 2 rfl) ?_
          refine lv_iadd hx hb dX10_layPages_50 ?_
          refine lv_aload_n hx hb dX10_layPages_51 rfl (lv_at hl 3 rfl) ?_
          refine va_get (D := D) (ci := 10) (v := .ref aD.2.2.2.2.2.2.2.2.2.2) (C := RX10) (T := TX10) (N := 23) hx hb hts huX10 hown hK hP 0 rfl rfl 22 (by decide) (hts (.fieldLink RX10 45 "VerseColumnsModel" "notesOn" "[I") (by decide +kernel)) (fun _ h9 => h9) rfl dX10_layPages_52 ?_
          refine lv_iload hx hb dX10_layPages_55 (lv_at hl 0 rfl) ?_
          obtain ⟨g, h⟩ := kif h
          refine va_iald hx hb hK hP 10 0 rfl rfl (kin g) dX10_layPages_57 ?_
          refine lv_iload_n hx hb dX10_layPages_58 rfl (lv_at hl 1 rfl) ?_
          refine lv_iadd hx hb dX10_layPages_59 ?_
          obtain ⟨q8, h7, h⟩ := Option.bind_eq_some_iff.mp h
          refine kcir [] (va_runS (As := [.int ((c0_22 (c0_18 - (1 : Int32)).toNatClampNeg) + q6)]) (rest := [.int ((c0_21 (c0_18 - (1 : Int32)).toNatClampNeg) + q4)]) ⟨hx, hb, hml, hown, hts⟩ (kX10_withLine l D cI cC cS ((c0_22 (c0_18 - (1 : Int32)).toNatClampNeg) + q6) H.size h7) (cwS 1 hts gX10_layPages_X10_withLine rfl rfl rfl (by decide +kernel) ⟨Nat.le_of_ble_eq_true rfl, Nat.le_of_ble_eq_true rfl⟩) (kpre hK hN hP hD [] rfl (by decide)) rfl rfl hl.1 rfl (lv_room (Nat.le_of_ble_eq_true rfl)) dX10_layPages_60 ⟨Nat.le_refl _, Nat.le_refl _⟩) hP hD hS hA rfl (fun H locs hP hS => ?_)
          refine lv_iadd hx hb dX10_layPages_63 ?_
          refine lv_aload_n hx hb dX10_layPages_64 rfl (lv_at hl 3 rfl) ?_
          refine va_get (D := D) (ci := 10) (v := .int vD16) (C := RX10) (T := TX10) (N := 23) hx hb hts huX10 hown hK hP 0 rfl rfl 16 (by decide) (hts (.fieldLink RX10 29 "VerseColumnsModel" "pageHeight" "I") (by decide +kernel)) (fun _ h9 => h9) rfl dX10_layPages_65 ?_
          refine lv_icmp_le (tgt := 103) hx hb dX10_layPages_68 (by decide) (fun g => ?_) (fun g => ?_)
          · rw [if_pos g] at h
            exact j103 c0_18 c0_19 c0_20 c0_21 c0_22 y1 q4 q6 (c0_18 - (1 : Int32)) _ _ _ h hP hD hS (lv_sub hl [3, 4, 2, 1, 0] rfl)
          · rw [if_neg g] at h
            exact j71 c0_18 c0_19 c0_20 c0_21 c0_22 y1 q4 q6 _ _ _ h hP hD hS (lv_sub hl [3, 4, 2, 1] rfl)
  unfold pX10_layPages at h
  refine lv_aload_n hx hb dX10_layPages_0 rfl (lv_at hl 0 rfl) ?_
  refine lv_iconst (v := (0 : Int32)) hx hb dX10_layPages_1 (by decide) ?_
  refine va_put (D := D) (ci := 10) (v := .int (0 : Int32)) (ty := .int) (C := RX10) (T := TX10) (N := 23) hx hb hts huX10 tyX10 tyX10_ok nmX10 hown hK hP hD hS 0 rfl rfl 18 (by decide) (hts (.fieldLink RX10 171 "VerseColumnsModel" "pages" "I") (by decide +kernel)) (fun _ h9 => h9) rfl (by decide +kernel) rfl rfl (Nat.le_of_ble_eq_true rfl) dX10_layPages_2 (fun H locs hP hD hS => ?_)
  have hP : va_P D vwCl (wMD cC cI aD vD0 vD1 vD2 vD3 vD4 vD5 vD6 vD7 vD8 vD9 vD10 vD11 vD12 vD13 vD14 vD15 vD16 vD17 (0 : Int32) vD19 vD20 vD21 vD22) H := hP
  have hD : va_D A (wMD cC cI aD vD0 vD1 vD2 vD3 vD4 vD5 vD6 vD7 vD8 vD9 vD10 vD11 vD12 vD13 vD14 vD15 vD16 vD17 (0 : Int32) vD19 vD20 vD21 vD22) := hD
  refine lv_iconst (v := (0 : Int32)) hx hb dX10_layPages_5 (by decide) ?_
  refine lv_istore_n (lv' := [(1, .int (0 : Int32)), (0, .ref aD.1)]) hx hb dX10_layPages_6 rfl hl (by decide) rfl (fun ls hl => ?_)
  exact L7 4000 (0 : Int32) vD19 vD20 vD21 vD22 (0 : Int32) _ _ _ h hP hD hS (lv_sub hl [1, 0] rfl)
set_option maxHeartbeats 8000000 in
set_option maxRecDepth 100000 in
theorem kX10_page (l : Launch) (D : va_G) (cI cC cS : ClassId) (aD : Nat × Nat × Nat × Nat × Nat × Nat × Nat × Nat × Nat × Nat × Nat) (vD0 : (Nat → Int32)) (vD1 : (Nat → Int32)) (vD2 : Int32) (vD3 : Int32) (vD4 : (Nat → Int32)) (vD5 : Int32) (vD6 : Int32) (vD7 : Int32) (vD8 : Int32) (vD9 : Int32) (vD10 : Int32) (vD11 : (Nat → Int32)) (vD12 : (Nat → Int32)) (vD13 : Int32) (vD14 : Int32) (vD15 : (Nat → Int32)) (vD16 : Int32) (vD17 : Int32) (vD18 : Int32) (vD19 : (Nat → Int32)) (vD20 : (Nat → Int32)) (vD21 : (Nat → Int32)) (vD22 : (Nat → Int32)) (i1 : Int32) (i2 : Int32) (sz : Nat) {q : Int32 × Int32 × (Nat → Int32) × (Nat → Int32) × (Nat → Int32) × (Nat → Int32)} (h : pX10_page vD0 vD15 vD16 vD17 vD18 vD19 vD20 vD21 vD22 i1 i2 = some q) : kMi l yX10_page wsX10_page ({ frames := 5, cells := 0, slots := 0, locals := 119 } : Room) D (kTy cI cC cS) [.ref aD.1, .int i1, .int i2] (wMD cC cI aD vD0 vD1 vD2 vD3 vD4 vD5 vD6 vD7 vD8 vD9 vD10 vD11 vD12 vD13 vD14 vD15 vD16 vD17 vD18 vD19 vD20 vD21 vD22) sz q.1 (wMD cC cI aD vD0 vD1 vD2 vD3 vD4 vD5 vD6 vD7 vD8 vD9 vD10 vD11 vD12 vD13 vD14 vD15 vD16 vD17 q.2.1 q.2.2.1 q.2.2.2.1 q.2.2.2.2.1 q.2.2.2.2.2) := by
  refine Met.ofW (cc := cX10_page) (maxL := 6) (ret := (some .int)) (by decide) rfl ?_
  intro p e s m args below meth c s₁ B hml hv
  obtain ⟨rfl, hsz, hP, hK, hD0, hN⟩ := hv
  have hx := B.exec
  have hb := B.bytes
  have hr := B.returns
  have hts := atoms_spec (ws := wsX10_page) B.pre
  have hown : s.vm.findClass RX10 = some m.cls := findClass_of_methodNamed B.named
  have hlocks := B.notSynchronized
  subst hsz
  have hD := hD0.self (sz := s.heap.size)
  generalize hAe : va_A (wMD cC cI aD vD0 vD1 vD2 vD3 vD4 vD5 vD6 vD7 vD8 vD9 vD10 vD11 vD12 vD13 vD14 vD15 vD16 vD17 vD18 vD19 vD20 vD21 vD22) s.heap.size = A at hD ⊢
  have hA : ∀ q : Nat, s.heap.size ≤ q → A q := fun q h => by rw [← hAe]; exact Or.inr h
  have hS : va_S A s.heap s.heap [] := va_S.rf
  have huX10 : ∀ w ∈ u_ws RX10 TX10 23, w ∈ wsX10_page := by decide +kernel
  have hl := lv_entry ([.ref aD.1, .int i1, .int i2]) (n := 6) (Nat.le_of_ble_eq_true rfl)
  rw [lg_entry_eq]
  generalize (lg_sl ([.ref aD.1, .int i1, .int i2]) ++ List.replicate (6 - (lg_sl ([.ref aD.1, .int i1, .int i2])).length) Slot.unset).toArray = ls at hl ⊢
  have hl : lv_has ls 6 [(0, .ref aD.1), (1, .int i1), (2, .int i2)] := hl
  have L41 : ∀ (nL41 : Nat) (c0_18 : Int32) (c0_19 : (Nat → Int32)) (c0_20 : (Nat → Int32)) (c0_21 : (Nat → Int32)) (c0_22 : (Nat → Int32)) (y1 : Int32) (y2 : Int32) (y3 : Int32) (y4 : Int32) (y5 : Int32) (H : Heap) (locs : List Loc) (ls : Array Slot), pX10_page_L41 vD0 vD15 vD16 vD17 nL41 c0_18 c0_19 c0_20 c0_21 c0_22 y1 y2 y3 y4 y5 = some q → va_P D vwCl (wMD cC cI aD vD0 vD1 vD2 vD3 vD4 vD5 vD6 vD7 vD8 vD9 vD10 vD11 vD12 vD13 vD14 vD15 vD16 vD17 c0_18 c0_19 c0_20 c0_21 c0_22) H → va_D A (wMD cC cI aD vD0 vD1 vD2 vD3 vD4 vD5 vD6 vD7 vD8 vD9 vD10 vD11 vD12 vD13 vD14 vD15 vD16 vD17 c0_18 c0_19 c0_20 c0_21 c0_22) → va_S A s.heap H locs → lv_has ls 6 [(0, .ref aD.1), (1, .int y1), (2, .int y2), (3, .int y3), (4, .int y4), (5, .int y5)] → W p l e ({ frames := 5, cells := 0, slots := 0, locals := 119 } : Room) s m ([.ref aD.1, .int i1, .int i2] : List Value).toArray below meth c H locs 0 0 (MQ below (va_Qi (fun (r : Int32) (_ : Unit) => r = q.1) (fun _ => kPost D (wMD cC cI aD vD0 vD1 vD2 vD3 vD4 vD5 vD6 vD7 vD8 vD9 vD10 vD11 vD12 vD13 vD14 vD15 vD16 vD17 q.2.1 q.2.2.1 q.2.2.2.1 q.2.2.2.2.1 q.2.2.2.2.2) A) A) ([.ref aD.1, .int i1, .int i2] : List Value).toArray s 0 0 A) (F0 m 41 ls []) := by
    clear h hP hD hS hl
    intro nL41
    induction nL41 with
    | zero => intro c0_18 c0_19 c0_20 c0_21 c0_22 y1 y2 y3 y4 y5 H locs ls h; have h : (none : Option (Int32 × Int32 × (Nat → Int32) × (Nat → Int32) × (Nat → Int32) × (Nat → Int32))) = some q := h; cases h
    | succ nL41 ihL41 =>
      have j90 : ∀ (c0_18 : Int32) (c0_19 : (Nat → Int32)) (c0_20 : (Nat → Int32)) (c0_21 : (Nat → Int32)) (c0_22 : (Nat → Int32)) (y1 : Int32) (y2 : Int32) (y3 : Int32) (y5 : Int32) (t0 : Int32) (H : Heap) (locs : List Loc) (ls : Array Slot), pX10_page_j90 vD0 vD15 vD16 vD17 (pX10_page_L41 vD0 vD15 vD16 vD17 nL41) c0_18 c0_19 c0_20 c0_21 c0_22 y1 y2 y3 y5 t0 = some q → va_P D vwCl (wMD cC cI aD vD0 vD1 vD2 vD3 vD4 vD5 vD6 vD7 vD8 vD9 vD10 vD11 vD12 vD13 vD14 vD15 vD16 vD17 c0_18 c0_19 c0_20 c0_21 c0_22) H → va_D A (wMD cC cI aD vD0 vD1 vD2 vD3 vD4 vD5 vD6 vD7 vD8 vD9 vD10 vD11 vD12 vD13 vD14 vD15 vD16 vD17 c0_18 c0_19 c0_20 c0_21 c0_22) → va_S A s.heap H locs → lv_has ls 6 [(0, .ref aD.1), (1, .int y1), (2, .int y2), (3, .int y3), (5, .int y5)] → W p l e ({ frames := 5, cells := 0, slots := 0, locals := 119 } : Room) s m ([.ref aD.1, .int i1, .int i2] : List Value).toArray below meth c H locs 0 0 (MQ below (va_Qi (fun (r : Int32) (_ : Unit) => r = q.1) (fun _ => kPost D (wMD cC cI aD vD0 vD1 vD2 vD3 vD4 vD5 vD6 vD7 vD8 vD9 vD10 vD11 vD12 vD13 vD14 vD15 vD16 vD17 q.2.1 q.2.2.1 q.2.2.2.1 q.2.2.2.2.1 q.2.2.2.2.2) A) A) ([.ref aD.1, .int i1, .int i2] : List Value).toArray s 0 0 A) (F0 m 90 ls [.int t0]) := by
        skip
        intro c0_18 c0_19 c0_20 c0_21 c0_22 y1 y2 y3 y5 t0 H locs ls h hP hD hS hl
        unfold pX10_page_j90 at h
        refine lv_istore (lv' := [(4, .int t0), (0, .ref aD.1), (1, .int y1), (2, .int y2), (3, .int y3), (5, .int y5)]) hx hb dX10_page_90 hl (by decide) rfl (fun ls hl => ?_)
        refine lv_iinc (v := (y5 + (1 : Int32))) (lv' := [(5, .int (y5 + (1 : Int32))), (4, .int t0), (0, .ref aD.1), (1, .int y1), (2, .int y2), (3, .int y3)]) hx hb dX10_page_92 hl (k := 5) rfl rfl (by decide) rfl (fun ls hl => ?_)
        refine lv_goto (tgt := 41) hx hb dX10_page_95 (by decide) ?_
        exact ihL41 c0_18 c0_19 c0_20 c0_21 c0_22 y1 y2 y3 t0 (y5 + (1 : Int32)) _ _ _ h hP hD hS (lv_sub hl [2, 3, 4, 5, 1, 0] rfl)
      have j71 : ∀ (c0_18 : Int32) (c0_19 : (Nat → Int32)) (c0_20 : (Nat → Int32)) (c0_21 : (Nat → Int32)) (c0_22 : (Nat → Int32)) (y1 : Int32) (y2 : Int32) (y4 : Int32) (y5 : Int32) (t0 : Int32) (H : Heap) (locs : List Loc) (ls : Array Slot), pX10_page_j71 vD0 vD15 vD16 vD17 (pX10_page_L41 vD0 vD15 vD16 vD17 nL41) c0_18 c0_19 c0_20 c0_21 c0_22 y1 y2 y4 y5 t0 = some q → va_P D vwCl (wMD cC cI aD vD0 vD1 vD2 vD3 vD4 vD5 vD6 vD7 vD8 vD9 vD10 vD11 vD12 vD13 vD14 vD15 vD16 vD17 c0_18 c0_19 c0_20 c0_21 c0_22) H → va_D A (wMD cC cI aD vD0 vD1 vD2 vD3 vD4 vD5 vD6 vD7 vD8 vD9 vD10 vD11 vD12 vD13 vD14 vD15 vD16 vD17 c0_18 c0_19 c0_20 c0_21 c0_22) → va_S A s.heap H locs → lv_has ls 6 [(0, .ref aD.1), (1, .int y1), (2, .int y2), (4, .int y4), (5, .int y5)] → W p l e ({ frames := 5, cells := 0, slots := 0, locals := 119 } : Room) s m ([.ref aD.1, .int i1, .int i2] : List Value).toArray below meth c H locs 0 0 (MQ below (va_Qi (fun (r : Int32) (_ : Unit) => r = q.1) (fun _ => kPost D (wMD cC cI aD vD0 vD1 vD2 vD3 vD4 vD5 vD6 vD7 vD8 vD9 vD10 vD11 vD12 vD13 vD14 vD15 vD16 vD17 q.2.1 q.2.2.1 q.2.2.2.1 q.2.2.2.2.1 q.2.2.2.2.2) A) A) ([.ref aD.1, .int i1, .int i2] : List Value).toArray s 0 0 A) (F0 m 71 ls [.int t0]) := by
        skip
        intro c0_18 c0_19 c0_20 c0_21 c0_22 y1 y2 y4 y5 t0 H locs ls h hP hD hS hl
        unfold pX10_page_j71 at h
        refine lv_istore_n (lv' := [(3, .int t0), (0, .ref aD.1), (1, .int y1), (2, .int y2), (4, .int y4), (5, .int y5)]) hx hb dX10_page_71 rfl hl (by decide) rfl (fun ls hl => ?_)
        refine lv_aload_n hx hb dX10_page_72 rfl (lv_at hl 1 rfl) ?_
        refine va_get (D := D) (ci := 10) (v := .ref aD.2.2.2.2.2.2.2.1) (C := RX10) (T := TX10) (N := 23) hx hb hts huX10 hown hK hP 0 rfl rfl 19 (by decide) (hts (.fieldLink RX10 36 "VerseColumnsModel" "pageOf" "[I") (by decide +kernel)) (fun _ h9 => h9) rfl dX10_page_73 ?_
        refine lv_iload hx hb dX10_page_76 (lv_at hl 5 rfl) ?_
        obtain ⟨g, h⟩ := kif h
        refine va_iald hx hb hK hP 7 0 rfl rfl (kin g) dX10_page_78 ?_
        refine lv_iload_n hx hb dX10_page_79 rfl (lv_at hl 2 rfl) ?_
        refine lv_icmp_ne (tgt := 88) hx hb dX10_page_80 (by decide) (fun g => ?_) (fun g => ?_)
        · rw [if_neg g] at h
          refine lv_iload hx hb dX10_page_88 (lv_at hl 4 rfl) ?_
          exact j90 c0_18 c0_19 c0_20 c0_21 c0_22 y1 y2 t0 y5 y4 _ _ _ h hP hD hS (lv_sub hl [1, 2, 3, 0, 5] rfl)
        · rw [if_pos g] at h
          refine lv_iload hx hb dX10_page_83 (lv_at hl 5 rfl) ?_
          refine lv_goto (tgt := 90) hx hb dX10_page_85 (by decide) ?_
          exact j90 c0_18 c0_19 c0_20 c0_21 c0_22 y1 y2 t0 y5 y5 _ _ _ h hP hD hS (lv_sub hl [1, 2, 3, 0, 5] rfl)
      have j70 : ∀ (c0_18 : Int32) (c0_19 : (Nat → Int32)) (c0_20 : (Nat → Int32)) (c0_21 : (Nat → Int32)) (c0_22 : (Nat → Int32)) (y1 : Int32) (y2 : Int32) (y3 : Int32) (y4 : Int32) (y5 : Int32) (H : Heap) (locs : List Loc) (ls : Array Slot), pX10_page_j70 vD0 vD15 vD16 vD17 (pX10_page_L41 vD0 vD15 vD16 vD17 nL41) c0_18 c0_19 c0_20 c0_21 c0_22 y1 y2 y3 y4 y5 = some q → va_P D vwCl (wMD cC cI aD vD0 vD1 vD2 vD3 vD4 vD5 vD6 vD7 vD8 vD9 vD10 vD11 vD12 vD13 vD14 vD15 vD16 vD17 c0_18 c0_19 c0_20 c0_21 c0_22) H → va_D A (wMD cC cI aD vD0 vD1 vD2 vD3 vD4 vD5 vD6 vD7 vD8 vD9 vD10 vD11 vD12 vD13 vD14 vD15 vD16 vD17 c0_18 c0_19 c0_20 c0_21 c0_22) → va_S A s.heap H locs → lv_has ls 6 [(0, .ref aD.1), (1, .int y1), (2, .int y2), (3, .int y3), (4, .int y4), (5, .int y5)] → W p l e ({ frames := 5, cells := 0, slots := 0, locals := 119 } : Room) s m ([.ref aD.1, .int i1, .int i2] : List Value).toArray below meth c H locs 0 0 (MQ below (va_Qi (fun (r : Int32) (_ : Unit) => r = q.1) (fun _ => kPost D (wMD cC cI aD vD0 vD1 vD2 vD3 vD4 vD5 vD6 vD7 vD8 vD9 vD10 vD11 vD12 vD13 vD14 vD15 vD16 vD17 q.2.1 q.2.2.1 q.2.2.2.1 q.2.2.2.2.1 q.2.2.2.2.2) A) A) ([.ref aD.1, .int i1, .int i2] : List Value).toArray s 0 0 A) (F0 m 70 ls []) := by
        skip
        intro c0_18 c0_19 c0_20 c0_21 c0_22 y1 y2 y3 y4 y5 H locs ls h hP hD hS hl
        unfold pX10_page_j70 at h
        refine lv_iload_n hx hb dX10_page_70 rfl (lv_at hl 3 rfl) ?_
        exact j71 c0_18 c0_19 c0_20 c0_21 c0_22 y1 y2 y4 y5 y3 _ _ _ h hP hD hS (lv_sub hl [0, 1, 2, 4, 5] rfl)
      intro c0_18 c0_19 c0_20 c0_21 c0_22 y1 y2 y3 y4 y5 H locs ls h hP hD hS hl
      have h : pX10_page_bL41 vD0 vD15 vD16 vD17 (pX10_page_L41 vD0 vD15 vD16 vD17 nL41) c0_18 c0_19 c0_20 c0_21 c0_22 y1 y2 y3 y4 y5 = some q := h
      unfold pX10_page_bL41 at h
      refine lv_iload hx hb dX10_page_41 (lv_at hl 5 rfl) ?_
      refine lv_aload_n hx hb dX10_page_43 rfl (lv_at hl 0 rfl) ?_
      obtain ⟨q6, h5, h⟩ := Option.bind_eq_some_iff.mp h
      refine kcir [0, 1, 2, 3, 4, 5, 6, 7, 8, 9, 10] (va_runV (As := []) (rest := [.int y5]) ⟨hx, hb, hml, hown, hts⟩ (kX10_groups l D cI cC cS aD vD0 vD1 vD2 vD3 vD4 vD5 vD6 vD7 vD8 vD9 vD10 vD11 vD12 vD13 vD14 vD15 vD16 vD17 c0_18 c0_19 c0_20 c0_21 c0_22 H.size h5) (cwV 0 hts gX10_page_X10_groups rfl rfl rfl (by decide +kernel) ⟨Nat.le_of_ble_eq_true rfl, Nat.le_of_ble_eq_true rfl⟩) (kpreV hK hN hP hD [0, 1, 2, 3, 4, 5, 6, 7, 8, 9, 10] rfl (by decide) 10 rfl rfl) rfl rfl hl.1 rfl (lv_room (Nat.le_of_ble_eq_true rfl)) dX10_page_44 ⟨Nat.le_refl _, Nat.le_refl _⟩) hP hD hS hA rfl (fun H locs hP hS => ?_)
      refine lv_icmp_ge (tgt := 98) hx hb dX10_page_47 (by decide) (fun g => ?_) (fun g => ?_)
      · rw [if_pos g] at h
        refine lv_aload_n hx hb dX10_page_98 rfl (lv_at hl 0 rfl) ?_
        refine va_get (D := D) (ci := 10) (v := .ref aD.2.2.2.2.2.2.2.2.2.2) (C := RX10) (T := TX10) (N := 23) hx hb hts huX10 hown hK hP 0 rfl rfl 22 (by decide) (hts (.fieldLink RX10 45 "VerseColumnsModel" "notesOn" "[I") (by decide +kernel)) (fun _ h9 => h9) rfl dX10_page_99 ?_
        refine lv_iload_n hx hb dX10_page_102 rfl (lv_at hl 1 rfl) ?_
        obtain ⟨g, h⟩ := kif h
        refine va_iald hx hb hK hP 10 0 rfl rfl (kin g) dX10_page_103 ?_
        obtain ⟨q8, h7, h⟩ := Option.bind_eq_some_iff.mp h
        refine kcir [] (va_runS (As := [.int (c0_22 y1.toNatClampNeg)]) (rest := []) ⟨hx, hb, hml, hown, hts⟩ (kX10_withLine l D cI cC cS (c0_22 y1.toNatClampNeg) H.size h7) (cwS 1 hts gX10_page_X10_withLine rfl rfl rfl (by decide +kernel) ⟨Nat.le_of_ble_eq_true rfl, Nat.le_of_ble_eq_true rfl⟩) (kpre hK hN hP hD [] rfl (by decide)) rfl rfl hl.1 rfl (lv_room (Nat.le_of_ble_eq_true rfl)) dX10_page_104 ⟨Nat.le_refl _, Nat.le_refl _⟩) hP hD hS hA rfl (fun H locs hP hS => ?_)
        refine lv_istore (lv' := [(5, .int q8), (0, .ref aD.1), (1, .int y1), (2, .int y2), (3, .int y3), (4, .int y4)]) hx hb dX10_page_107 hl (by decide) rfl (fun ls hl => ?_)
        refine lv_iload_n hx hb dX10_page_109 rfl (lv_at hl 3 rfl) ?_
        refine lv_if_ne (tgt := 117) hx hb dX10_page_110 (by decide) (fun g => ?_) (fun g => ?_)
        · rw [if_neg g] at h
          refine lv_iload_n hx hb dX10_page_117 rfl (lv_at hl 3 rfl) ?_
          refine lv_iconst (v := (1 : Int32)) hx hb dX10_page_118 (by decide) ?_
          refine lv_icmp_ne (tgt := 127) hx hb dX10_page_119 (by decide) (fun g => ?_) (fun g => ?_)
          · rw [if_neg g] at h
            refine lv_iload_n hx hb dX10_page_127 rfl (lv_at hl 3 rfl) ?_
            refine lv_iconst (v := (2 : Int32)) hx hb dX10_page_128 (by decide) ?_
            refine lv_icmp_ne (tgt := 141) hx hb dX10_page_129 (by decide) (fun g => ?_) (fun g => ?_)
            · rw [if_neg g] at h
              refine lv_iload_n hx hb dX10_page_141 rfl (lv_at hl 3 rfl) ?_
              refine lv_iconst (v := (3 : Int32)) hx hb dX10_page_142 (by decide) ?_
              refine lv_icmp_ne (tgt := 151) hx hb dX10_page_143 (by decide) (fun g => ?_) (fun g => ?_)
              · rw [if_neg g] at h
                refine lv_aload_n hx hb dX10_page_151 rfl (lv_at hl 1 rfl) ?_
                refine va_get (D := D) (ci := 10) (v := .ref aD.2.2.2.2.2.2.2.2.2.1) (C := RX10) (T := TX10) (N := 23) hx hb hts huX10 hown hK hP 0 rfl rfl 21 (by decide) (hts (.fieldLink RX10 42 "VerseColumnsModel" "heightOn" "[I") (by decide +kernel)) (fun _ h9 => h9) rfl dX10_page_152 ?_
                refine lv_iload_n hx hb dX10_page_155 rfl (lv_at hl 2 rfl) ?_
                obtain ⟨g, h⟩ := kif h
                refine va_iald hx hb hK hP 9 0 rfl rfl (kin g) dX10_page_156 ?_
                refine lv_iload hx hb dX10_page_157 (lv_at hl 0 rfl) ?_
                refine lv_iadd hx hb dX10_page_159 ?_
                refine lv_aload_n hx hb dX10_page_160 rfl (lv_at hl 1 rfl) ?_
                refine va_get (D := D) (ci := 10) (v := .int vD16) (C := RX10) (T := TX10) (N := 23) hx hb hts huX10 hown hK hP 0 rfl rfl 16 (by decide) (hts (.fieldLink RX10 29 "VerseColumnsModel" "pageHeight" "I") (by decide +kernel)) (fun _ h9 => h9) rfl dX10_page_161 ?_
                refine lv_icmp_le (tgt := 171) hx hb dX10_page_164 (by decide) (fun g => ?_) (fun g => ?_)
                · rw [if_pos g] at h
                  refine lv_iconst (v := (0 : Int32)) hx hb dX10_page_171 (by decide) ?_
                  obtain rfl := Option.some.inj h
                  exact W.iret (v := (0 : Int32)) hx hb hr (fun t ht hW => ⟨⟨_, (), rfl, rfl, by rw [ht]; exact hP, hD⟩, hS.F ht⟩) hS.2.2 dX10_page_172
                · rw [if_neg g] at h
                  refine lv_iconst (v := (1 : Int32)) hx hb dX10_page_167 (by decide) ?_
                  refine lv_goto (tgt := 172) hx hb dX10_page_168 (by decide) ?_
                  obtain rfl := Option.some.inj h
                  exact W.iret (v := (1 : Int32)) hx hb hr (fun t ht hW => ⟨⟨_, (), rfl, rfl, by rw [ht]; exact hP, hD⟩, hS.F ht⟩) hS.2.2 dX10_page_172
              · rw [if_pos g] at h
                refine lv_iload hx hb dX10_page_146 (lv_at hl 0 rfl) ?_
                refine lv_goto (tgt := 172) hx hb dX10_page_148 (by decide) ?_
                obtain rfl := Option.some.inj h
                exact W.iret (v := q8) hx hb hr (fun t ht hW => ⟨⟨_, (), rfl, rfl, by rw [ht]; exact hP, hD⟩, hS.F ht⟩) hS.2.2 dX10_page_172
            · rw [if_pos g] at h
              refine lv_aload_n hx hb dX10_page_132 rfl (lv_at hl 1 rfl) ?_
              refine va_get (D := D) (ci := 10) (v := .ref aD.2.2.2.2.2.2.2.2.2.1) (C := RX10) (T := TX10) (N := 23) hx hb hts huX10 hown hK hP 0 rfl rfl 21 (by decide) (hts (.fieldLink RX10 42 "VerseColumnsModel" "heightOn" "[I") (by decide +kernel)) (fun _ h9 => h9) rfl dX10_page_133 ?_
              refine lv_iload_n hx hb dX10_page_136 rfl (lv_at hl 2 rfl) ?_
              obtain ⟨g, h⟩ := kif h
              refine va_iald hx hb hK hP 9 0 rfl rfl (kin g) dX10_page_137 ?_
              refine lv_goto (tgt := 172) hx hb dX10_page_138 (by decide) ?_
              obtain rfl := Option.some.inj h
              exact W.iret (v := (c0_21 y1.toNatClampNeg)) hx hb hr (fun t ht hW => ⟨⟨_, (), rfl, rfl, by rw [ht]; exact hP, hD⟩, hS.F ht⟩) hS.2.2 dX10_page_172
          · rw [if_pos g] at h
            refine lv_iload hx hb dX10_page_122 (lv_at hl 5 rfl) ?_
            refine lv_goto (tgt := 172) hx hb dX10_page_124 (by decide) ?_
            obtain rfl := Option.some.inj h
            exact W.iret (v := y4) hx hb hr (fun t ht hW => ⟨⟨_, (), rfl, rfl, by rw [ht]; exact hP, hD⟩, hS.F ht⟩) hS.2.2 dX10_page_172
        · rw [if_pos g] at h
          refine lv_iload_n hx hb dX10_page_113 rfl (lv_at hl 4 rfl) ?_
          refine lv_goto (tgt := 172) hx hb dX10_page_114 (by decide) ?_
          obtain rfl := Option.some.inj h
          exact W.iret (v := y3) hx hb hr (fun t ht hW => ⟨⟨_, (), rfl, rfl, by rw [ht]; exact hP, hD⟩, hS.F ht⟩) hS.2.2 dX10_page_172
      · rw [if_neg g] at h
        refine lv_aload_n hx hb dX10_page_50 rfl (lv_at hl 0 rfl) ?_
        refine va_get (D := D) (ci := 10) (v := .ref aD.2.2.2.2.2.2.2.1) (C := RX10) (T := TX10) (N := 23) hx hb hts huX10 hown hK hP 0 rfl rfl 19 (by decide) (hts (.fieldLink RX10 36 "VerseColumnsModel" "pageOf" "[I") (by decide +kernel)) (fun _ h9 => h9) rfl dX10_page_51 ?_
        refine lv_iload hx hb dX10_page_54 (lv_at hl 5 rfl) ?_
        obtain ⟨g, h⟩ := kif h
        refine va_iald hx hb hK hP 7 0 rfl rfl (kin g) dX10_page_56 ?_
        refine lv_iload_n hx hb dX10_page_57 rfl (lv_at hl 1 rfl) ?_
        refine lv_icmp_ne (tgt := 70) hx hb dX10_page_58 (by decide) (fun g => ?_) (fun g => ?_)
        · rw [if_neg g] at h
          exact j70 c0_18 c0_19 c0_20 c0_21 c0_22 y1 y2 y3 y4 y5 _ _ _ h hP hD hS (lv_sub hl [0, 1, 2, 3, 4, 5] rfl)
        · rw [if_pos g] at h
          refine lv_iload_n hx hb dX10_page_61 rfl (lv_at hl 3 rfl) ?_
          refine lv_if_ge (tgt := 70) hx hb dX10_page_62 (by decide) (fun g => ?_) (fun g => ?_)
          · rw [if_pos g] at h
            exact j70 c0_18 c0_19 c0_20 c0_21 c0_22 y1 y2 y3 y4 y5 _ _ _ h hP hD hS (lv_sub hl [0, 1, 2, 3, 4, 5] rfl)
          · rw [if_neg g] at h
            refine lv_iload hx hb dX10_page_65 (lv_at hl 5 rfl) ?_
            refine lv_goto (tgt := 71) hx hb dX10_page_67 (by decide) ?_
            exact j71 c0_18 c0_19 c0_20 c0_21 c0_22 y1 y2 y4 y5 y5 _ _ _ h hP hD hS (lv_sub hl [0, 1, 2, 4, 5] rfl)
  unfold pX10_page at h
  refine lv_iload_n hx hb dX10_page_0 rfl (lv_at hl 1 rfl) ?_
  refine lv_if_lt (tgt := 13) hx hb dX10_page_1 (by decide) (fun g => ?_) (fun g => ?_)
  · rw [if_pos g] at h
    refine lv_bipush (v := (-2 : Int32)) hx hb dX10_page_13 (by decide) ?_
    obtain rfl := Option.some.inj h
    exact W.iret (v := (-2 : Int32)) hx hb hr (fun t ht hW => ⟨⟨_, (), rfl, rfl, by rw [ht]; exact hP, hD⟩, hS.F ht⟩) hS.2.2 dX10_page_15
  · rw [if_neg g] at h
    refine lv_iload_n hx hb dX10_page_4 rfl (lv_at hl 2 rfl) ?_
    refine lv_iconst (v := (0 : Int32)) hx hb dX10_page_5 (by decide) ?_
    refine lv_iconst (v := (4 : Int32)) hx hb dX10_page_6 (by decide) ?_
    obtain ⟨q2, h1, h⟩ := Option.bind_eq_some_iff.mp h
    refine kcir [] (va_runS (As := [.int i2, .int (0 : Int32), .int (4 : Int32)]) (rest := []) ⟨hx, hb, hml, hown, hts⟩ (kX10_in l D cI cC cS i2 (0 : Int32) (4 : Int32) s.heap.size h1) (cwS 3 hts gX10_page_X10_in rfl rfl rfl (by decide +kernel) ⟨Nat.le_of_ble_eq_true rfl, Nat.le_of_ble_eq_true rfl⟩) (kpre hK hN hP hD [] rfl (by decide)) rfl rfl hl.1 rfl (lv_room (Nat.le_of_ble_eq_true rfl)) dX10_page_7 ⟨Nat.le_refl _, Nat.le_refl _⟩) hP hD hS hA rfl (fun H locs hP hS => ?_)
    refine lv_if_ne (tgt := 16) hx hb dX10_page_10 (by decide) (fun g => ?_) (fun g => ?_)
    · rw [if_neg g] at h
      refine lv_aload_n hx hb dX10_page_16 rfl (lv_at hl 0 rfl) ?_
      obtain ⟨q4, h3, h⟩ := Option.bind_eq_some_iff.mp h
      refine kcvw (ws' := (wMD cC cI aD vD0 vD1 vD2 vD3 vD4 vD5 vD6 vD7 vD8 vD9 vD10 vD11 vD12 vD13 vD14 vD15 vD16 vD17 q4.1 q4.2.1 q4.2.2.1 q4.2.2.2.1 q4.2.2.2.2)) [0, 1, 2, 3, 4, 5, 6, 7, 8, 9, 10] (va_runV (As := []) (rest := []) ⟨hx, hb, hml, hown, hts⟩ (kX10_layPages l D cI cC cS aD vD0 vD1 vD2 vD3 vD4 vD5 vD6 vD7 vD8 vD9 vD10 vD11 vD12 vD13 vD14 vD15 vD16 vD17 vD18 vD19 vD20 vD21 vD22 H.size h3) (cwV 0 hts gX10_page_X10_layPages rfl rfl rfl (by decide +kernel) ⟨Nat.le_of_ble_eq_true rfl, Nat.le_of_ble_eq_true rfl⟩) (kpreV hK hN hP hD [0, 1, 2, 3, 4, 5, 6, 7, 8, 9, 10] rfl (by decide) 10 rfl rfl) rfl rfl hl.1 rfl (lv_room (Nat.le_of_ble_eq_true rfl)) dX10_page_17 ⟨Nat.le_refl _, Nat.le_refl _⟩) hP hD hS hA rfl (by decide) rfl [1, 2, 3, 4, 5, 6, 7, 8, 9, 10, 11] (by decide +kernel) rfl (fun H locs hP hD hS => ?_)
      refine lv_iload_n hx hb dX10_page_20 rfl (lv_at hl 1 rfl) ?_
      refine lv_aload_n hx hb dX10_page_21 rfl (lv_at hl 0 rfl) ?_
      refine va_get (D := D) (ci := 10) (v := .int q4.1) (C := RX10) (T := TX10) (N := 23) hx hb hts huX10 hown hK hP 0 rfl rfl 18 (by decide) (hts (.fieldLink RX10 171 "VerseColumnsModel" "pages" "I") (by decide +kernel)) (fun _ h9 => h9) rfl dX10_page_22 ?_
      refine lv_icmp_lt (tgt := 31) hx hb dX10_page_25 (by decide) (fun g => ?_) (fun g => ?_)
      · rw [if_pos g] at h
        refine lv_bipush (v := (-5 : Int32)) hx hb dX10_page_31 (by decide) ?_
        refine lv_istore_n (lv' := [(3, .int (-5 : Int32)), (0, .ref aD.1), (1, .int i1), (2, .int i2)]) hx hb dX10_page_33 rfl hl (by decide) rfl (fun ls hl => ?_)
        refine lv_bipush (v := (-5 : Int32)) hx hb dX10_page_34 (by decide) ?_
        refine lv_istore (lv' := [(4, .int (-5 : Int32)), (3, .int (-5 : Int32)), (0, .ref aD.1), (1, .int i1), (2, .int i2)]) hx hb dX10_page_36 hl (by decide) rfl (fun ls hl => ?_)
        refine lv_iconst (v := (0 : Int32)) hx hb dX10_page_38 (by decide) ?_
        refine lv_istore (lv' := [(5, .int (0 : Int32)), (4, .int (-5 : Int32)), (3, .int (-5 : Int32)), (0, .ref aD.1), (1, .int i1), (2, .int i2)]) hx hb dX10_page_39 hl (by decide) rfl (fun ls hl => ?_)
        exact L41 4000 q4.1 q4.2.1 q4.2.2.1 q4.2.2.2.1 q4.2.2.2.2 i1 i2 (-5 : Int32) (-5 : Int32) (0 : Int32) _ _ _ h hP hD hS (lv_sub hl [3, 4, 5, 2, 1, 0] rfl)
      · rw [if_neg g] at h
        refine lv_bipush (v := (-5 : Int32)) hx hb dX10_page_28 (by decide) ?_
        obtain rfl := Option.some.inj h
        exact W.iret (v := (-5 : Int32)) hx hb hr (fun t ht hW => ⟨⟨_, (), rfl, rfl, by rw [ht]; exact hP, hD⟩, hS.F ht⟩) hS.2.2 dX10_page_30
    · rw [if_pos g] at h
      refine lv_bipush (v := (-2 : Int32)) hx hb dX10_page_13 (by decide) ?_
      obtain rfl := Option.some.inj h
      exact W.iret (v := (-2 : Int32)) hx hb hr (fun t ht hW => ⟨⟨_, (), rfl, rfl, by rw [ht]; exact hP, hD⟩, hS.F ht⟩) hS.2.2 dX10_page_15
