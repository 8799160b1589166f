-- walks: vc (printed by wip/whole/gen)
set_option maxHeartbeats 8000000 in
set_option maxRecDepth 100000 in
theorem kX9_pairAll (l : Launch) (D : va_G) (cI cC cS : ClassId) (aV : Nat) (xV2 : Nat) (xV3 : Nat) (xV4 : Nat) (xV5 : Nat) (xV6 : Nat) (aS : Nat) (aL : Nat × Nat × Nat × Nat) (vL0 : (Nat → Int32)) (vL1 : (Nat → Int32)) (vL2 : (Nat → Int32)) (vL3 : Int32) (aR : Nat × Nat × Nat × Nat) (vR0 : (Nat → Int32)) (vR1 : (Nat → Int32)) (vR2 : (Nat → Int32)) (vR3 : Int32) (aM : Nat × Nat × Nat) (vM0 : (Nat → Int32)) (vM1 : (Nat → Int32)) (vM2 : Int32) (aH : aHI) (vH0 : Int32) (vH2 : vST) (vH3 : vST) (vH4 : vST) (vH5 : vST) (vH6 : vST) (sz : Nat) {q : Int32 × (Nat → Int32) × (Nat → Int32) × Int32 × Int32 × Nat × vST × vST × vST × vST × vST} (h : pX9_pairAll vL0 vL1 vL2 vL3 vR0 vR1 vR2 vR3 vM0 vM1 vM2 vH0 vH2 vH3 vH4 vH5 vH6 = some q) : kMi l yX9_pairAll wsX9_pairAll ({ frames := 6, cells := 0, slots := 0, locals := 140 } : Room) D (kTy cI cC cS) [.ref aV] (wVC aV aS aH.1 xV2 xV3 xV4 xV5 xV6 ++ (wSC aS aL.1 aR.1 aM.1 ++ (wBK cI aL vL0 vL1 vL2 vL3 ++ (wBK cI aR vR0 vR1 vR2 vR3 ++ (wMP cI aM vM0 vM1 vM2 ++ wHI cI cS aH vH0 0 vH2 vH3 vH4 vH5 vH6))))) sz q.1 (wVC aV aS aH.1 xV2 xV3 xV4 xV5 xV6 ++ (wSC aS aL.1 aR.1 aM.1 ++ (wBK cI aL vL0 vL1 vL2 vL3 ++ (wBK cI aR vR0 vR1 vR2 vR3 ++ (wMP cI aM q.2.1 q.2.2.1 q.2.2.2.1 ++ wHI cI cS aH q.2.2.2.2.1 q.2.2.2.2.2.1 q.2.2.2.2.2.2.1 q.2.2.2.2.2.2.2.1 q.2.2.2.2.2.2.2.2.1 q.2.2.2.2.2.2.2.2.2.1 q.2.2.2.2.2.2.2.2.2.2))))) := by
  refine Met.ofW (cc := cX9_pairAll) (maxL := 3) (ret := (some .int)) (by decide) rfl ?_
  intro p e s m args below meth c s₁ B hml hv
  obtain ⟨rfl, hsz, hP, hK, hD0, hN⟩ := hv
  have hx := B.exec
  have hb := B.bytes
  have hr := B.returns
  have hts := atoms_spec (ws := wsX9_pairAll) B.pre
  have hown : s.vm.findClass RX9 = some m.cls := findClass_of_methodNamed B.named
  have hlocks := B.notSynchronized
  subst hsz
  have hD := hD0.self (sz := s.heap.size)
  generalize hAe : va_A (wVC aV aS aH.1 xV2 xV3 xV4 xV5 xV6 ++ (wSC aS aL.1 aR.1 aM.1 ++ (wBK cI aL vL0 vL1 vL2 vL3 ++ (wBK cI aR vR0 vR1 vR2 vR3 ++ (wMP cI aM vM0 vM1 vM2 ++ wHI cI cS aH vH0 0 vH2 vH3 vH4 vH5 vH6))))) s.heap.size = A at hD ⊢
  have hA : ∀ q : Nat, s.heap.size ≤ q → A q := fun q h => by rw [← hAe]; exact Or.inr h
  have hS : va_S A s.heap s.heap [] := va_S.rf
  have huX0 : ∀ w ∈ u_ws RX0 TX0 4, w ∈ wsX9_pairAll := by decide +kernel
  have huX1 : ∀ w ∈ u_ws RX1 TX1 3, w ∈ wsX9_pairAll := by decide +kernel
  have huX7 : ∀ w ∈ u_ws RX7 TX7 3, w ∈ wsX9_pairAll := by decide +kernel
  have huX9 : ∀ w ∈ u_ws RX9 TX9 7, w ∈ wsX9_pairAll := by decide +kernel
  have hl := lv_entry ([.ref aV]) (n := 3) (Nat.le_of_ble_eq_true rfl)
  rw [lg_entry_eq]
  generalize (lg_sl ([.ref aV]) ++ List.replicate (3 - (lg_sl ([.ref aV])).length) Slot.unset).toArray = ls at hl ⊢
  have hl : lv_has ls 3 [(0, .ref aV)] := hl
  have L47 : ∀ (nL47 : Nat) (c4_0 : (Nat → Int32)) (c4_1 : (Nat → Int32)) (c4_2 : Int32) (c5_0 : Int32) (c5_1 : Nat) (c5_2 : vST) (c5_3 : vST) (c5_4 : vST) (c5_5 : vST) (c5_6 : vST) (y1 : Int32) (y2 : Int32) (H : Heap) (locs : List Loc) (ls : Array Slot), pX9_pairAll_L47 vL0 vL1 vL2 vL3 vR0 vR1 vR2 vR3 nL47 c4_0 c4_1 c4_2 c5_0 c5_1 c5_2 c5_3 c5_4 c5_5 c5_6 y1 y2 = some q → va_P D vwCl (wVC aV aS aH.1 xV2 xV3 xV4 xV5 xV6 ++ (wSC aS aL.1 aR.1 aM.1 ++ (wBK cI aL vL0 vL1 vL2 vL3 ++ (wBK cI aR vR0 vR1 vR2 vR3 ++ (wMP cI aM c4_0 c4_1 c4_2 ++ wHI cI cS aH c5_0 c5_1 c5_2 c5_3 c5_4 c5_5 c5_6))))) H → va_D A (wVC aV aS aH.1 xV2 xV3 xV4 xV5 xV6 ++ (wSC aS aL.1 aR.1 aM.1 ++ (wBK cI aL vL0 vL1 vL2 vL3 ++ (wBK cI aR vR0 vR1 vR2 vR3 ++ (wMP cI aM c4_0 c4_1 c4_2 ++ wHI cI cS aH c5_0 c5_1 c5_2 c5_3 c5_4 c5_5 c5_6))))) → va_S A s.heap H locs → lv_has ls 3 [(0, .ref aV), (1, .int y1), (2, .int y2)] → W p l e ({ frames := 6, cells := 0, slots := 0, locals := 140 } : Room) s m ([.ref aV] : List Value).toArray below meth c H locs 0 0 (MQ below (va_Qi (fun (r : Int32) (_ : Unit) => r = q.1) (fun _ => kPost D (wVC aV aS aH.1 xV2 xV3 xV4 xV5 xV6 ++ (wSC aS aL.1 aR.1 aM.1 ++ (wBK cI aL vL0 vL1 vL2 vL3 ++ (wBK cI aR vR0 vR1 vR2 vR3 ++ (wMP cI aM q.2.1 q.2.2.1 q.2.2.2.1 ++ wHI cI cS aH q.2.2.2.2.1 q.2.2.2.2.2.1 q.2.2.2.2.2.2.1 q.2.2.2.2.2.2.2.1 q.2.2.2.2.2.2.2.2.1 q.2.2.2.2.2.2.2.2.2.1 q.2.2.2.2.2.2.2.2.2.2))))) A) A) ([.ref aV] : List Value).toArray s 0 0 A) (F0 m 47 ls []) := by
    clear h hP hD hS hl
    intro nL47
    induction nL47 with
    | zero => intro c4_0 c4_1 c4_2 c5_0 c5_1 c5_2 c5_3 c5_4 c5_5 c5_6 y1 y2 H locs ls h; have h : (none : Option (Int32 × (Nat → Int32) × (Nat → Int32) × Int32 × Int32 × Nat × vST × vST × vST × vST × vST)) = some q := h; cases h
    | succ nL47 ihL47 =>
      have j97 : ∀ (c4_0 : (Nat → Int32)) (c4_1 : (Nat → Int32)) (c4_2 : Int32) (c5_0 : Int32) (c5_1 : Nat) (c5_2 : vST) (c5_3 : vST) (c5_4 : vST) (c5_5 : vST) (c5_6 : vST) (y1 : Int32) (y2 : Int32) (t1 : Int32) (t2 : Int32) (H : Heap) (locs : List Loc) (ls : Array Slot), pX9_pairAll_j97 vL0 vL1 vL2 vL3 vR0 vR1 vR2 vR3 (pX9_pairAll_L47 vL0 vL1 vL2 vL3 vR0 vR1 vR2 vR3 nL47) c4_0 c4_1 c4_2 c5_0 c5_1 c5_2 c5_3 c5_4 c5_5 c5_6 y1 y2 t1 t2 = some q → va_P D vwCl (wVC aV aS aH.1 xV2 xV3 xV4 xV5 xV6 ++ (wSC aS aL.1 aR.1 aM.1 ++ (wBK cI aL vL0 vL1 vL2 vL3 ++ (wBK cI aR vR0 vR1 vR2 vR3 ++ (wMP cI aM c4_0 c4_1 c4_2 ++ wHI cI cS aH c5_0 c5_1 c5_2 c5_3 c5_4 c5_5 c5_6))))) H → va_D A (wVC aV aS aH.1 xV2 xV3 xV4 xV5 xV6 ++ (wSC aS aL.1 aR.1 aM.1 ++ (wBK cI aL vL0 vL1 vL2 vL3 ++ (wBK cI aR vR0 vR1 vR2 vR3 ++ (wMP cI aM c4_0 c4_1 c4_2 ++ wHI cI cS aH c5_0 c5_1 c5_2 c5_3 c5_4 c5_5 c5_6))))) → va_S A s.heap H locs → lv_has ls 3 [(0, .ref aV), (1, .int y1), (2, .int y2)] → W p l e ({ frames := 6, cells := 0, slots := 0, locals := 140 } : Room) s m ([.ref aV] : List Value).toArray below meth c H locs 0 0 (MQ below (va_Qi (fun (r : Int32) (_ : Unit) => r = q.1) (fun _ => kPost D (wVC aV aS aH.1 xV2 xV3 xV4 xV5 xV6 ++ (wSC aS aL.1 aR.1 aM.1 ++ (wBK cI aL vL0 vL1 vL2 vL3 ++ (wBK cI aR vR0 vR1 vR2 vR3 ++ (wMP cI aM q.2.1 q.2.2.1 q.2.2.2.1 ++ wHI cI cS aH q.2.2.2.2.1 q.2.2.2.2.2.1 q.2.2.2.2.2.2.1 q.2.2.2.2.2.2.2.1 q.2.2.2.2.2.2.2.2.1 q.2.2.2.2.2.2.2.2.2.1 q.2.2.2.2.2.2.2.2.2.2))))) A) A) ([.ref aV] : List Value).toArray s 0 0 A) (F0 m 97 ls [.int t2, .int t1, .ref aM.1]) := by
        skip
        intro c4_0 c4_1 c4_2 c5_0 c5_1 c5_2 c5_3 c5_4 c5_5 c5_6 y1 y2 t1 t2 H locs ls h hP hD hS hl
        unfold pX9_pairAll_j97 at h
        obtain ⟨q6, h5, h⟩ := Option.bind_eq_some_iff.mp h
        refine kcvw (ws' := (wVC aV aS aH.1 xV2 xV3 xV4 xV5 xV6 ++ (wSC aS aL.1 aR.1 aM.1 ++ (wBK cI aL vL0 vL1 vL2 vL3 ++ (wBK cI aR vR0 vR1 vR2 vR3 ++ (wMP cI aM q6.1 q6.2.1 q6.2.2 ++ wHI cI cS aH c5_0 c5_1 c5_2 c5_3 c5_4 c5_5 c5_6)))))) [10, 11, 12] (va_runV (As := [.int t1, .int t2]) (rest := []) ⟨hx, hb, hml, hown, hts⟩ (kX1_append l D cI cC cS aM c4_0 c4_1 c4_2 t1 t2 H.size h5) (cwV 2 hts gX9_pairAll_X1_append rfl rfl rfl (by decide +kernel) ⟨Nat.le_of_ble_eq_true rfl, Nat.le_of_ble_eq_true rfl⟩) (kpreV hK hN hP hD [10, 11, 12] rfl (by decide) 1 rfl rfl) rfl rfl hl.1 rfl (lv_room (Nat.le_of_ble_eq_true rfl)) dX9_pairAll_97 ⟨Nat.le_refl _, Nat.le_refl _⟩) hP hD hS hA rfl (by decide) rfl [0, 0, 0, 0, 0, 0, 0, 0, 0, 0, 1, 2, 3, 0, 0, 0, 0, 0, 0, 0, 0, 0, 0, 0, 0, 0, 0, 0, 0, 0, 0, 0, 0, 0, 0, 0, 0, 0, 0, 0, 0, 0, 0, 0, 0, 0, 0, 0, 0, 0, 0, 0, 0, 0, 0, 0, 0, 0, 0, 0, 0, 0, 0, 0, 0, 0, 0, 0, 0, 0, 0, 0, 0, 0, 0] (by decide +kernel) rfl (fun H locs hP hD hS => ?_)
        refine lv_iinc (v := (y2 + (1 : Int32))) (lv' := [(2, .int (y2 + (1 : Int32))), (0, .ref aV), (1, .int y1)]) hx hb dX9_pairAll_100 hl (k := 2) rfl rfl (by decide) rfl (fun ls hl => ?_)
        refine lv_goto (tgt := 47) hx hb dX9_pairAll_103 (by decide) ?_
        exact ihL47 q6.1 q6.2.1 q6.2.2 c5_0 c5_1 c5_2 c5_3 c5_4 c5_5 c5_6 y1 (y2 + (1 : Int32)) _ _ _ h hP hD hS (lv_sub hl [1, 2, 0] rfl)
      have j78 : ∀ (c4_0 : (Nat → Int32)) (c4_1 : (Nat → Int32)) (c4_2 : Int32) (c5_0 : Int32) (c5_1 : Nat) (c5_2 : vST) (c5_3 : vST) (c5_4 : vST) (c5_5 : vST) (c5_6 : vST) (y1 : Int32) (y2 : Int32) (t1 : Int32) (H : Heap) (locs : List Loc) (ls : Array Slot), pX9_pairAll_j78 vL0 vL1 vL2 vL3 vR0 vR1 vR2 vR3 (pX9_pairAll_L47 vL0 vL1 vL2 vL3 vR0 vR1 vR2 vR3 nL47) c4_0 c4_1 c4_2 c5_0 c5_1 c5_2 c5_3 c5_4 c5_5 c5_6 y1 y2 t1 = some q → va_P D vwCl (wVC aV aS aH.1 xV2 xV3 xV4 xV5 xV6 ++ (wSC aS aL.1 aR.1 aM.1 ++ (wBK cI aL vL0 vL1 vL2 vL3 ++ (wBK cI aR vR0 vR1 vR2 vR3 ++ (wMP cI aM c4_0 c4_1 c4_2 ++ wHI cI cS aH c5_0 c5_1 c5_2 c5_3 c5_4 c5_5 c5_6))))) H → va_D A (wVC aV aS aH.1 xV2 xV3 xV4 xV5 xV6 ++ (wSC aS aL.1 aR.1 aM.1 ++ (wBK cI aL vL0 vL1 vL2 vL3 ++ (wBK cI aR vR0 vR1 vR2 vR3 ++ (wMP cI aM c4_0 c4_1 c4_2 ++ wHI cI cS aH c5_0 c5_1 c5_2 c5_3 c5_4 c5_5 c5_6))))) → va_S A s.heap H locs → lv_has ls 3 [(0, .ref aV), (1, .int y1), (2, .int y2)] → W p l e ({ frames := 6, cells := 0, slots := 0, locals := 140 } : Room) s m ([.ref aV] : List Value).toArray below meth c H locs 0 0 (MQ below (va_Qi (fun (r : Int32) (_ : Unit) => r = q.1) (fun _ => kPost D (wVC aV aS aH.1 xV2 xV3 xV4 xV5 xV6 ++ (wSC aS aL.1 aR.1 aM.1 ++ (wBK cI aL vL0 vL1 vL2 vL3 ++ (wBK cI aR vR0 vR1 vR2 vR3 ++ (wMP cI aM q.2.1 q.2.2.1 q.2.2.2.1 ++ wHI cI cS aH q.2.2.2.2.1 q.2.2.2.2.2.1 q.2.2.2.2.2.2.1 q.2.2.2.2.2.2.2.1 q.2.2.2.2.2.2.2.2.1 q.2.2.2.2.2.2.2.2.2.1 q.2.2.2.2.2.2.2.2.2.2))))) A) A) ([.ref aV] : List Value).toArray s 0 0 A) (F0 m 78 ls [.int t1, .ref aM.1]) := by
        skip
        intro c4_0 c4_1 c4_2 c5_0 c5_1 c5_2 c5_3 c5_4 c5_5 c5_6 y1 y2 t1 H locs ls h hP hD hS hl
        unfold pX9_pairAll_j78 at h
        refine lv_iload_n hx hb dX9_pairAll_78 rfl (lv_at hl 2 rfl) ?_
        refine lv_aload_n hx hb dX9_pairAll_79 rfl (lv_at hl 0 rfl) ?_
        refine va_get (D := D) (ci := 9) (v := .ref aS) (C := RX9) (T := TX9) (N := 7) hx hb hts huX9 hown hK hP 0 rfl rfl 0 (by decide) (hts (.fieldLink RX9 12 "VerseColumns" "state" "LVerseColumns$State;") (by decide +kernel)) (fun _ h9 => h9) rfl dX9_pairAll_80 ?_
        refine va_getN (D := D) (ci := 7) (v := .ref aR.1) (C := RX7) (T := TX7) (N := 3) hx hb hts huX7 hown hK hP 1 rfl rfl 1 (by decide) (hN.f 10 rfl) (fun _ h9 => h9) rfl dX9_pairAll_83 ?_
        refine va_getN (D := D) (ci := 0) (v := .int vR3) (C := RX0) (T := TX0) (N := 4) hx hb hts huX0 hown hK hP 6 rfl rfl 3 (by decide) (hN.f 1 rfl) (fun _ h9 => h9) rfl dX9_pairAll_86 ?_
        refine lv_icmp_ge (tgt := 96) hx hb dX9_pairAll_89 (by decide) (fun g => ?_) (fun g => ?_)
        · rw [if_pos g] at h
          refine lv_iconst (v := (0 : Int32)) hx hb dX9_pairAll_96 (by decide) ?_
          exact j97 c4_0 c4_1 c4_2 c5_0 c5_1 c5_2 c5_3 c5_4 c5_5 c5_6 y1 y2 t1 (0 : Int32) _ _ _ h hP hD hS (lv_sub hl [0, 1, 2] rfl)
        · rw [if_neg g] at h
          refine lv_iconst (v := (1 : Int32)) hx hb dX9_pairAll_92 (by decide) ?_
          refine lv_goto (tgt := 97) hx hb dX9_pairAll_93 (by decide) ?_
          exact j97 c4_0 c4_1 c4_2 c5_0 c5_1 c5_2 c5_3 c5_4 c5_5 c5_6 y1 y2 t1 (1 : Int32) _ _ _ h hP hD hS (lv_sub hl [0, 1, 2] rfl)
      intro c4_0 c4_1 c4_2 c5_0 c5_1 c5_2 c5_3 c5_4 c5_5 c5_6 y1 y2 H locs ls h hP hD hS hl
      have h : pX9_pairAll_bL47 vL0 vL1 vL2 vL3 vR0 vR1 vR2 vR3 (pX9_pairAll_L47 vL0 vL1 vL2 vL3 vR0 vR1 vR2 vR3 nL47) c4_0 c4_1 c4_2 c5_0 c5_1 c5_2 c5_3 c5_4 c5_5 c5_6 y1 y2 = some q := h
      unfold pX9_pairAll_bL47 at h
      refine lv_iload_n hx hb dX9_pairAll_47 rfl (lv_at hl 2 rfl) ?_
      refine lv_iload_n hx hb dX9_pairAll_48 rfl (lv_at hl 1 rfl) ?_
      refine lv_icmp_ge (tgt := 106) hx hb dX9_pairAll_49 (by decide) (fun g => ?_) (fun g => ?_)
      · rw [if_pos g] at h
        refine lv_aload_n hx hb dX9_pairAll_106 rfl (lv_at hl 0 rfl) ?_
        refine va_get (D := D) (ci := 9) (v := .ref aS) (C := RX9) (T := TX9) (N := 7) hx hb hts huX9 hown hK hP 0 rfl rfl 0 (by decide) (hts (.fieldLink RX9 12 "VerseColumns" "state" "LVerseColumns$State;") (by decide +kernel)) (fun _ h9 => h9) rfl dX9_pairAll_107 ?_
        refine va_getN (D := D) (ci := 7) (v := .ref aM.1) (C := RX7) (T := TX7) (N := 3) hx hb hts huX7 hown hK hP 1 rfl rfl 2 (by decide) (hN.f 11 rfl) (fun _ h9 => h9) rfl dX9_pairAll_110 ?_
        refine va_getN (D := D) (ci := 1) (v := .int c4_2) (C := RX1) (T := TX1) (N := 3) hx hb hts huX1 hown hK hP 10 rfl rfl 2 (by decide) (hN.f 4 rfl) (fun _ h9 => h9) rfl dX9_pairAll_113 ?_
        obtain rfl := Option.some.inj h
        exact W.iret (v := c4_2) hx hb hr (fun t ht hW => ⟨⟨_, (), rfl, rfl, by rw [ht]; exact hP, hD⟩, hS.F ht⟩) hS.2.2 dX9_pairAll_116
      · rw [if_neg g] at h
        refine lv_aload_n hx hb dX9_pairAll_52 rfl (lv_at hl 0 rfl) ?_
        refine va_get (D := D) (ci := 9) (v := .ref aS) (C := RX9) (T := TX9) (N := 7) hx hb hts huX9 hown hK hP 0 rfl rfl 0 (by decide) (hts (.fieldLink RX9 12 "VerseColumns" "state" "LVerseColumns$State;") (by decide +kernel)) (fun _ h9 => h9) rfl dX9_pairAll_53 ?_
        refine va_getN (D := D) (ci := 7) (v := .ref aM.1) (C := RX7) (T := TX7) (N := 3) hx hb hts huX7 hown hK hP 1 rfl rfl 2 (by decide) (hN.f 11 rfl) (fun _ h9 => h9) rfl dX9_pairAll_56 ?_
        refine lv_iload_n hx hb dX9_pairAll_59 rfl (lv_at hl 2 rfl) ?_
        refine lv_aload_n hx hb dX9_pairAll_60 rfl (lv_at hl 0 rfl) ?_
        refine va_get (D := D) (ci := 9) (v := .ref aS) (C := RX9) (T := TX9) (N := 7) hx hb hts huX9 hown hK hP 0 rfl rfl 0 (by decide) (hts (.fieldLink RX9 12 "VerseColumns" "state" "LVerseColumns$State;") (by decide +kernel)) (fun _ h9 => h9) rfl dX9_pairAll_61 ?_
        refine va_getN (D := D) (ci := 7) (v := .ref aL.1) (C := RX7) (T := TX7) (N := 3) hx hb hts huX7 hown hK hP 1 rfl rfl 0 (by decide) (hN.f 7 rfl) (fun _ h9 => h9) rfl dX9_pairAll_64 ?_
        refine va_getN (D := D) (ci := 0) (v := .int vL3) (C := RX0) (T := TX0) (N := 4) hx hb hts huX0 hown hK hP 2 rfl rfl 3 (by decide) (hN.f 1 rfl) (fun _ h9 => h9) rfl dX9_pairAll_67 ?_
        refine lv_icmp_ge (tgt := 77) hx hb dX9_pairAll_70 (by decide) (fun g => ?_) (fun g => ?_)
        · rw [if_pos g] at h
          refine lv_iconst (v := (0 : Int32)) hx hb dX9_pairAll_77 (by decide) ?_
          exact j78 c4_0 c4_1 c4_2 c5_0 c5_1 c5_2 c5_3 c5_4 c5_5 c5_6 y1 y2 (0 : Int32) _ _ _ h hP hD hS (lv_sub hl [0, 1, 2] rfl)
        · rw [if_neg g] at h
          refine lv_iconst (v := (1 : Int32)) hx hb dX9_pairAll_73 (by decide) ?_
          refine lv_goto (tgt := 78) hx hb dX9_pairAll_74 (by decide) ?_
          exact j78 c4_0 c4_1 c4_2 c5_0 c5_1 c5_2 c5_3 c5_4 c5_5 c5_6 y1 y2 (1 : Int32) _ _ _ h hP hD hS (lv_sub hl [0, 1, 2] rfl)
  unfold pX9_pairAll at h
  refine lv_aload_n hx hb dX9_pairAll_0 rfl (lv_at hl 0 rfl) ?_
  refine va_get (D := D) (ci := 9) (v := .ref aH.1) (C := RX9) (T := TX9) (N := 7) hx hb hts huX9 hown hK hP 0 rfl rfl 1 (by decide) (hts (.fieldLink RX9 19 "VerseColumns" "history" "LVerseColumns$History;") (by decide +kernel)) (fun _ h9 => h9) rfl dX9_pairAll_1 ?_
  refine lv_aload_n hx hb dX9_pairAll_4 rfl (lv_at hl 0 rfl) ?_
  refine va_get (D := D) (ci := 9) (v := .ref aS) (C := RX9) (T := TX9) (N := 7) hx hb hts huX9 hown hK hP 0 rfl rfl 0 (by decide) (hts (.fieldLink RX9 12 "VerseColumns" "state" "LVerseColumns$State;") (by decide +kernel)) (fun _ h9 => h9) rfl dX9_pairAll_5 ?_
  obtain ⟨q2, h1, h⟩ := Option.bind_eq_some_iff.mp h
  refine kcvw (ws' := (wVC aV aS aH.1 xV2 xV3 xV4 xV5 xV6 ++ (wSC aS aL.1 aR.1 aM.1 ++ (wBK cI aL vL0 vL1 vL2 vL3 ++ (wBK cI aR vR0 vR1 vR2 vR3 ++ (wMP cI aM vM0 vM1 vM2 ++ wHI cI cS aH q2.1 q2.2.1 q2.2.2.1 q2.2.2.2.1 q2.2.2.2.2.1 q2.2.2.2.2.2.1 q2.2.2.2.2.2.2)))))) [13, 14, 15, 16, 17, 18, 19, 20, 21, 22, 23, 24, 25, 26, 27, 28, 29, 30, 31, 32, 33, 34, 35, 36, 37, 38, 39, 40, 41, 42, 43, 44, 45, 46, 47, 48, 49, 50, 51, 52, 53, 54, 55, 56, 57, 58, 59, 60, 61, 62, 63, 64, 65, 66, 67, 68, 69, 70, 71, 72, 73, 74, 1, 2, 3, 4, 5, 6, 7, 8, 9, 10, 11, 12] (va_runV (As := [.ref aS]) (rest := []) ⟨hx, hb, hml, hown, hts⟩ (kX2_record l D cI cC cS aH vH0 vH2 vH3 vH4 vH5 vH6 aS aL vL0 vL1 vL2 vL3 aR vR0 vR1 vR2 vR3 aM vM0 vM1 vM2 s.heap.size h1) (cwV 1 hts gX9_pairAll_X2_record rfl rfl rfl (by decide +kernel) ⟨Nat.le_of_ble_eq_true rfl, Nat.le_of_ble_eq_true rfl⟩) (kpreV hK hN hP hD [13, 14, 15, 16, 17, 18, 19, 20, 21, 22, 23, 24, 25, 26, 27, 28, 29, 30, 31, 32, 33, 34, 35, 36, 37, 38, 39, 40, 41, 42, 43, 44, 45, 46, 47, 48, 49, 50, 51, 52, 53, 54, 55, 56, 57, 58, 59, 60, 61, 62, 63, 64, 65, 66, 67, 68, 69, 70, 71, 72, 73, 74, 1, 2, 3, 4, 5, 6, 7, 8, 9, 10, 11, 12] rfl (by decide +kernel) 2 rfl rfl) rfl rfl hl.1 rfl (lv_room (Nat.le_of_ble_eq_true rfl)) dX9_pairAll_8 ⟨Nat.le_refl _, Nat.le_refl _⟩) hP hD hS hA rfl (by decide +kernel) rfl [0, 63, 64, 65, 66, 67, 68, 69, 70, 71, 72, 73, 74, 1, 2, 3, 4, 5, 6, 7, 8, 9, 10, 11, 12, 13, 14, 15, 16, 17, 18, 19, 20, 21, 22, 23, 24, 25, 26, 27, 28, 29, 30, 31, 32, 33, 34, 35, 36, 37, 38, 39, 40, 41, 42, 43, 44, 45, 46, 47, 48, 49, 50, 51, 52, 53, 54, 55, 56, 57, 58, 59, 60, 61, 62] (by decide +kernel) rfl (fun H locs hP hD hS => ?_)
  refine lv_aload_n hx hb dX9_pairAll_11 rfl (lv_at hl 0 rfl) ?_
  refine va_get (D := D) (ci := 9) (v := .ref aS) (C := RX9) (T := TX9) (N := 7) hx hb hts huX9 hown hK hP 0 rfl rfl 0 (by decide) (hts (.fieldLink RX9 12 "VerseColumns" "state" "LVerseColumns$State;") (by decide +kernel)) (fun _ h9 => h9) rfl dX9_pairAll_12 ?_
  refine va_getN (D := D) (ci := 7) (v := .ref aM.1) (C := RX7) (T := TX7) (N := 3) hx hb hts huX7 hown hK hP 1 rfl rfl 2 (by decide) (hN.f 11 rfl) (fun _ h9 => h9) rfl dX9_pairAll_15 ?_
  obtain ⟨q4, h3, h⟩ := Option.bind_eq_some_iff.mp h
  refine kcvw (ws' := (wVC aV aS aH.1 xV2 xV3 xV4 xV5 xV6 ++ (wSC aS aL.1 aR.1 aM.1 ++ (wBK cI aL vL0 vL1 vL2 vL3 ++ (wBK cI aR vR0 vR1 vR2 vR3 ++ (wMP cI aM vM0 vM1 q4 ++ wHI cI cS aH q2.1 q2.2.1 q2.2.2.1 q2.2.2.2.1 q2.2.2.2.2.1 q2.2.2.2.2.2.1 q2.2.2.2.2.2.2)))))) [10, 11, 12] (va_runV (As := []) (rest := []) ⟨hx, hb, hml, hown, hts⟩ (kX1_clear l D cI cC cS aM vM0 vM1 vM2 H.size h3) (cwV 0 hts gX9_pairAll_X1_clear rfl rfl rfl (by decide +kernel) ⟨Nat.le_of_ble_eq_true rfl, Nat.le_of_ble_eq_true rfl⟩) (kpreV hK hN hP hD [10, 11, 12] rfl (by decide) 1 rfl rfl) rfl rfl hl.1 rfl (lv_room (Nat.le_of_ble_eq_true rfl)) dX9_pairAll_18 ⟨Nat.le_refl _, Nat.le_refl _⟩) hP hD hS hA rfl (by decide) rfl [0, 0, 0, 0, 0, 0, 0, 0, 0, 0, 1, 2, 3, 0, 0, 0, 0, 0, 0, 0, 0, 0, 0, 0, 0, 0, 0, 0, 0, 0, 0, 0, 0, 0, 0, 0, 0, 0, 0, 0, 0, 0, 0, 0, 0, 0, 0, 0, 0, 0, 0, 0, 0, 0, 0, 0, 0, 0, 0, 0, 0, 0, 0, 0, 0, 0, 0, 0, 0, 0, 0, 0, 0, 0, 0] (by decide +kernel) rfl (fun H locs hP hD hS => ?_)
  refine lv_aload_n hx hb dX9_pairAll_21 rfl (lv_at hl 0 rfl) ?_
  refine va_get (D := D) (ci := 9) (v := .ref aS) (C := RX9) (T := TX9) (N := 7) hx hb hts huX9 hown hK hP 0 rfl rfl 0 (by decide) (hts (.fieldLink RX9 12 "VerseColumns" "state" "LVerseColumns$State;") (by decide +kernel)) (fun _ h9 => h9) rfl dX9_pairAll_22 ?_
  refine va_getN (D := D) (ci := 7) (v := .ref aL.1) (C := RX7) (T := TX7) (N := 3) hx hb hts huX7 hown hK hP 1 rfl rfl 0 (by decide) (hN.f 7 rfl) (fun _ h9 => h9) rfl dX9_pairAll_25 ?_
  refine va_getN (D := D) (ci := 0) (v := .int vL3) (C := RX0) (T := TX0) (N := 4) hx hb hts huX0 hown hK hP 2 rfl rfl 3 (by decide) (hN.f 1 rfl) (fun _ h9 => h9) rfl dX9_pairAll_28 ?_
  refine lv_aload_n hx hb dX9_pairAll_31 rfl (lv_at hl 0 rfl) ?_
  refine va_get (D := D) (ci := 9) (v := .ref aS) (C := RX9) (T := TX9) (N := 7) hx hb hts huX9 hown hK hP 0 rfl rfl 0 (by decide) (hts (.fieldLink RX9 12 "VerseColumns" "state" "LVerseColumns$State;") (by decide +kernel)) (fun _ h9 => h9) rfl dX9_pairAll_32 ?_
  refine va_getN (D := D) (ci := 7) (v := .ref aR.1) (C := RX7) (T := TX7) (N := 3) hx hb hts huX7 hown hK hP 1 rfl rfl 1 (by decide) (hN.f 10 rfl) (fun _ h9 => h9) rfl dX9_pairAll_35 ?_
  refine va_getN (D := D) (ci := 0) (v := .int vR3) (C := RX0) (T := TX0) (N := 4) hx hb hts huX0 hown hK hP 6 rfl rfl 3 (by decide) (hN.f 1 rfl) (fun _ h9 => h9) rfl dX9_pairAll_38 ?_
  refine va_mmax hx hb (hml.trans hl.1.symm) hown (hts (.methodLink RX9 161 Lib.Math.max.name) (by decide +kernel)) (hts (.static Lib.Math.max.name) (by decide +kernel)) (hts (.initialized "java/lang/Math") (by decide +kernel)) (hts (.code Lib.Math.max.name Lib.Math.max.code 2 (some .int)) (by decide +kernel)) (Nat.le_of_ble_eq_true rfl) (Nat.le_of_ble_eq_true rfl) (Nat.le_refl _) (Nat.le_refl _) dX9_pairAll_41 ?_
  refine lv_istore_n (lv' := [(1, .int (if vL3 < vR3 then vR3 else vL3)), (0, .ref aV)]) hx hb dX9_pairAll_44 rfl hl (by decide) rfl (fun ls hl => ?_)
  refine lv_iconst (v := (0 : Int32)) hx hb dX9_pairAll_45 (by decide) ?_
  refine lv_istore_n (lv' := [(2, .int (0 : Int32)), (1, .int (if vL3 < vR3 then vR3 else vL3)), (0, .ref aV)]) hx hb dX9_pairAll_46 rfl hl (by decide) rfl (fun ls hl => ?_)
  exact L47 4000 vM0 vM1 q4 q2.1 q2.2.1 q2.2.2.1 q2.2.2.2.1 q2.2.2.2.2.1 q2.2.2.2.2.2.1 q2.2.2.2.2.2.2 (if vL3 < vR3 then vR3 else vL3) (0 : Int32) _ _ _ h hP hD hS (lv_sub hl [2, 1, 0] rfl)
set_option maxHeartbeats 8000000 in
set_option maxRecDepth 100000 in
theorem kX9_undo (l : Launch) (D : va_G) (cI cC cS : ClassId) (aV : Nat) (xV2 : Nat) (xV3 : Nat) (xV4 : Nat) (xV5 : Nat) (xV6 : Nat) (aS : Nat) (aL : Nat × Nat × Nat × Nat) (vL0 : (Nat → Int32)) (vL1 : (Nat → Int32)) (vL2 : (Nat → Int32)) (vL3 : Int32) (aR : Nat × Nat × Nat × Nat) (vR0 : (Nat → Int32)) (vR1 : (Nat → Int32)) (vR2 : (Nat → Int32)) (vR3 : Int32) (aM : Nat × Nat × Nat) (vM0 : (Nat → Int32)) (vM1 : (Nat → Int32)) (vM2 : Int32) (aH : aHI) (vH0 : Int32) (vH2 : vST) (vH3 : vST) (vH4 : vST) (vH5 : vST) (vH6 : vST) (sz : Nat) {q : Int32 × (Nat → Int32) × (Nat → Int32) × (Nat → Int32) × Int32 × (Nat → Int32) × (Nat → Int32) × (Nat → Int32) × Int32 × (Nat → Int32) × (Nat → Int32) × Int32 × Int32} (h : pX9_undo vL0 vL1 vL2 vL3 vR0 vR1 vR2 vR3 vM0 vM1 vM2 vH0 vH2 vH3 vH4 vH5 vH6 = some q) : kMi l yX9_undo wsX9_undo ({ frames := 6, cells := 0, slots := 0, locals := 140 } : Room) D (kTy cI cC cS) [.ref aV] (wVC aV aS aH.1 xV2 xV3 xV4 xV5 xV6 ++ (wSC aS aL.1 aR.1 aM.1 ++ (wBK cI aL vL0 vL1 vL2 vL3 ++ (wBK cI aR vR0 vR1 vR2 vR3 ++ (wMP cI aM vM0 vM1 vM2 ++ wHI cI cS aH vH0 0 vH2 vH3 vH4 vH5 vH6))))) sz q.1 (wVC aV aS aH.1 xV2 xV3 xV4 xV5 xV6 ++ (wSC aS aL.1 aR.1 aM.1 ++ (wBK cI aL q.2.1 q.2.2.1 q.2.2.2.1 q.2.2.2.2.1 ++ (wBK cI aR q.2.2.2.2.2.1 q.2.2.2.2.2.2.1 q.2.2.2.2.2.2.2.1 q.2.2.2.2.2.2.2.2.1 ++ (wMP cI aM q.2.2.2.2.2.2.2.2.2.1 q.2.2.2.2.2.2.2.2.2.2.1 q.2.2.2.2.2.2.2.2.2.2.2.1 ++ wHI cI cS aH q.2.2.2.2.2.2.2.2.2.2.2.2 0 vH2 vH3 vH4 vH5 vH6))))) := by
  refine Met.ofW (cc := cX9_undo) (maxL := 1) (ret := (some .int)) (by decide) rfl ?_
  intro p e s m args below meth c s₁ B hml hv
  obtain ⟨rfl, hsz, hP, hK, hD0, hN⟩ := hv
  have hx := B.exec
  have hb := B.bytes
  have hr := B.returns
  have hts := atoms_spec (ws := wsX9_undo) B.pre
  have hown : s.vm.findClass RX9 = some m.cls := findClass_of_methodNamed B.named
  have hlocks := B.notSynchronized
  subst hsz
  have hD := hD0.self (sz := s.heap.size)
  generalize hAe : va_A (wVC aV aS aH.1 xV2 xV3 xV4 xV5 xV6 ++ (wSC aS aL.1 aR.1 aM.1 ++ (wBK cI aL vL0 vL1 vL2 vL3 ++ (wBK cI aR vR0 vR1 vR2 vR3 ++ (wMP cI aM vM0 vM1 vM2 ++ wHI cI cS aH vH0 0 vH2 vH3 vH4 vH5 vH6))))) s.heap.size = A at hD ⊢
  have hA : ∀ q : Nat, s.heap.size ≤ q → A q := fun q h => by rw [← hAe]; exact Or.inr h
  have hS : va_S A s.heap s.heap [] := va_S.rf
  have huX2 : ∀ w ∈ u_ws RX2 TX2 2, w ∈ wsX9_undo := by decide +kernel
  have huX9 : ∀ w ∈ u_ws RX9 TX9 7, w ∈ wsX9_undo := by decide +kernel
  have hl := lv_entry ([.ref aV]) (n := 1) (Nat.le_of_ble_eq_true rfl)
  rw [lg_entry_eq]
  generalize (lg_sl ([.ref aV]) ++ List.replicate (1 - (lg_sl ([.ref aV])).length) Slot.unset).toArray = ls at hl ⊢
  have hl : lv_has ls 1 [(0, .ref aV)] := hl
  unfold pX9_undo at h
  refine lv_aload_n hx hb dX9_undo_0 rfl (lv_at hl 0 rfl) ?_
  refine va_get (D := D) (ci := 9) (v := .ref aH.1) (C := RX9) (T := TX9) (N := 7) hx hb hts huX9 hown hK hP 0 rfl rfl 1 (by decide) (hts (.fieldLink RX9 19 "VerseColumns" "history" "LVerseColumns$History;") (by decide +kernel)) (fun _ h9 => h9) rfl dX9_undo_1 ?_
  refine va_getN (D := D) (ci := 2) (v := .int vH0) (C := RX2) (T := TX2) (N := 2) hx hb hts huX2 hown hK hP 13 rfl rfl 1 (by decide) (hN.f 13 rfl) (fun _ h9 => h9) rfl dX9_undo_4 ?_
  refine lv_if_ne (tgt := 13) hx hb dX9_undo_7 (by decide) (fun g => ?_) (fun g => ?_)
  · rw [if_neg g] at h
    refine lv_aload_n hx hb dX9_undo_13 rfl (lv_at hl 0 rfl) ?_
    refine va_get (D := D) (ci := 9) (v := .ref aH.1) (C := RX9) (T := TX9) (N := 7) hx hb hts huX9 hown hK hP 0 rfl rfl 1 (by decide) (hts (.fieldLink RX9 19 "VerseColumns" "history" "LVerseColumns$History;") (by decide +kernel)) (fun _ h9 => h9) rfl dX9_undo_14 ?_
    refine lv_aload_n hx hb dX9_undo_17 rfl (lv_at hl 0 rfl) ?_
    refine va_get (D := D) (ci := 9) (v := .ref aS) (C := RX9) (T := TX9) (N := 7) hx hb hts huX9 hown hK hP 0 rfl rfl 0 (by decide) (hts (.fieldLink RX9 12 "VerseColumns" "state" "LVerseColumns$State;") (by decide +kernel)) (fun _ h9 => h9) rfl dX9_undo_18 ?_
    obtain ⟨q2, h1, h⟩ := Option.bind_eq_some_iff.mp h
    refine kcvw (ws' := (wVC aV aS aH.1 xV2 xV3 xV4 xV5 xV6 ++ (wSC aS aL.1 aR.1 aM.1 ++ (wBK cI aL q2.2.1 q2.2.2.1 q2.2.2.2.1 q2.2.2.2.2.1 ++ (wBK cI aR q2.2.2.2.2.2.1 q2.2.2.2.2.2.2.1 q2.2.2.2.2.2.2.2.1 q2.2.2.2.2.2.2.2.2.1 ++ (wMP cI aM q2.2.2.2.2.2.2.2.2.2.1 q2.2.2.2.2.2.2.2.2.2.2.1 q2.2.2.2.2.2.2.2.2.2.2.2 ++ wHI cI cS aH q2.1 0 vH2 vH3 vH4 vH5 vH6)))))) [13, 14, 15, 16, 17, 18, 19, 20, 21, 22, 23, 24, 25, 26, 27, 28, 29, 30, 31, 32, 33, 34, 35, 36, 37, 38, 39, 40, 41, 42, 43, 44, 45, 46, 47, 48, 49, 50, 51, 52, 53, 54, 55, 56, 57, 58, 59, 60, 61, 62, 63, 64, 65, 66, 67, 68, 69, 70, 71, 72, 73, 74, 1, 2, 3, 4, 5, 6, 7, 8, 9, 10, 11, 12] (va_runV (As := [.ref aS]) (rest := []) ⟨hx, hb, hml, hown, hts⟩ (kX2_restore l D cI cC cS aH vH0 vH2 vH3 vH4 vH5 vH6 aS aL vL0 vL1 vL2 vL3 aR vR0 vR1 vR2 vR3 aM vM0 vM1 vM2 s.heap.size h1) (cwV 1 hts gX9_undo_X2_restore rfl rfl rfl (by decide +kernel) ⟨Nat.le_of_ble_eq_true rfl, Nat.le_of_ble_eq_true rfl⟩) (kpreV hK hN hP hD [13, 14, 15, 16, 17, 18, 19, 20, 21, 22, 23, 24, 25, 26, 27, 28, 29, 30, 31, 32, 33, 34, 35, 36, 37, 38, 39, 40, 41, 42, 43, 44, 45, 46, 47, 48, 49, 50, 51, 52, 53, 54, 55, 56, 57, 58, 59, 60, 61, 62, 63, 64, 65, 66, 67, 68, 69, 70, 71, 72, 73, 74, 1, 2, 3, 4, 5, 6, 7, 8, 9, 10, 11, 12] rfl (by decide +kernel) 2 rfl rfl) rfl rfl hl.1 rfl (lv_room (Nat.le_of_ble_eq_true rfl)) dX9_undo_21 ⟨Nat.le_refl _, Nat.le_refl _⟩) hP hD hS hA rfl (by decide +kernel) rfl [0, 63, 64, 65, 66, 67, 68, 69, 70, 71, 72, 73, 74, 1, 2, 3, 4, 5, 6, 7, 8, 9, 10, 11, 12, 13, 14, 15, 16, 17, 18, 19, 20, 21, 22, 23, 24, 25, 26, 27, 28, 29, 30, 31, 32, 33, 34, 35, 36, 37, 38, 39, 40, 41, 42, 43, 44, 45, 46, 47, 48, 49, 50, 51, 52, 53, 54, 55, 56, 57, 58, 59, 60, 61, 62] (by decide +kernel) rfl (fun H locs hP hD hS => ?_)
    refine lv_aload_n hx hb dX9_undo_24 rfl (lv_at hl 0 rfl) ?_
    refine va_get (D := D) (ci := 9) (v := .ref aH.1) (C := RX9) (T := TX9) (N := 7) hx hb hts huX9 hown hK hP 0 rfl rfl 1 (by decide) (hts (.fieldLink RX9 19 "VerseColumns" "history" "LVerseColumns$History;") (by decide +kernel)) (fun _ h9 => h9) rfl dX9_undo_25 ?_
    refine va_getN (D := D) (ci := 2) (v := .int q2.1) (C := RX2) (T := TX2) (N := 2) hx hb hts huX2 hown hK hP 13 rfl rfl 1 (by decide) (hN.f 13 rfl) (fun _ h9 => h9) rfl dX9_undo_28 ?_
    obtain rfl := Option.some.inj h
    exact W.iret (v := q2.1) hx hb hr (fun t ht hW => ⟨⟨_, (), rfl, rfl, by rw [ht]; exact hP, hD⟩, hS.F ht⟩) hS.2.2 dX9_undo_31
  · rw [if_pos g] at h
    refine lv_bipush (v := (-5 : Int32)) hx hb dX9_undo_10 (by decide) ?_
    obtain rfl := Option.some.inj h
    exact W.iret (v := (-5 : Int32)) hx hb hr (fun t ht hW => ⟨⟨_, (), rfl, rfl, by rw [ht]; exact hP, hD⟩, hS.F ht⟩) hS.2.2 dX9_undo_12
set_option maxHeartbeats 8000000 in
set_option maxRecDepth 100000 in
theorem kX9_readMap (l : Launch) (D : va_G) (cI cC cS : ClassId) (aV : Nat) (xV3 : Nat) (xV5 : Nat) (xV6 : Nat) (aS : Nat) (aL : Nat × Nat × Nat × Nat) (vL0 : (Nat → Int32)) (vL1 : (Nat → Int32)) (vL2 : (Nat → Int32)) (vL3 : Int32) (aR : Nat × Nat × Nat × Nat) (vR0 : (Nat → Int32)) (vR1 : (Nat → Int32)) (vR2 : (Nat → Int32)) (vR3 : Int32) (aM : Nat × Nat × Nat) (vM0 : (Nat → Int32)) (vM1 : (Nat → Int32)) (vM2 : Int32) (aH : aHI) (vH0 : Int32) (vH2 : vST) (vH3 : vST) (vH4 : vST) (vH5 : vST) (vH6 : vST) (aT : Nat × Nat) (vT0 : (Nat → Int32)) (vT1 : Int32) (vT2 : Int32) (vT3 : Int32) (vT4 : Int32) (vT5 : Int32) (aJ : Nat) (vJ0 : Int32) (vJ1 : Int32) (aN : Nat × Nat × Nat) (vN0 : (Nat → Int32)) (vN1 : (Nat → Int32)) (vN2 : Int32) (sz : Nat) {q : Int32 × (Nat → Int32) × (Nat → Int32) × Int32 × Int32 × Nat × vST × vST × vST × vST × vST × Int32 × Int32 × Int32 × Int32 × Int32 × Int32 × (Nat → Int32) × (Nat → Int32) × Int32} (h : pX9_readMap vL0 vL1 vL2 vL3 vR0 vR1 vR2 vR3 vM0 vM1 vM2 vH0 vH2 vH3 vH4 vH5 vH6 vT0 vT1 vN0 vN1 = some q) : kMi l yX9_readMap wsX9_readMap ({ frames := 6, cells := 0, slots := 0, locals := 140 } : Room) D (kTy cI cC cS) [.ref aV] (wVC aV aS aH.1 aT.1 xV3 aJ xV5 xV6 ++ (wSC aS aL.1 aR.1 aM.1 ++ (wBK cI aL vL0 vL1 vL2 vL3 ++ (wBK cI aR vR0 vR1 vR2 vR3 ++ (wMP cI aM vM0 vM1 vM2 ++ (wHI cI cS aH vH0 0 vH2 vH3 vH4 vH5 vH6 ++ (wTX cC aT vT0 vT1 vT2 vT3 vT4 vT5 ++ (wMR aJ aN.1 vJ0 vJ1 ++ wMP cI aN vN0 vN1 vN2)))))))) sz q.1 (wVC aV aS aH.1 aT.1 xV3 aJ xV5 xV6 ++ (wSC aS aL.1 aR.1 aM.1 ++ (wBK cI aL vL0 vL1 vL2 vL3 ++ (wBK cI aR vR0 vR1 vR2 vR3 ++ (wMP cI aM q.2.1 q.2.2.1 q.2.2.2.1 ++ (wHI cI cS aH q.2.2.2.2.1 q.2.2.2.2.2.1 q.2.2.2.2.2.2.1 q.2.2.2.2.2.2.2.1 q.2.2.2.2.2.2.2.2.1 q.2.2.2.2.2.2.2.2.2.1 q.2.2.2.2.2.2.2.2.2.2.1 ++ (wTX cC aT vT0 vT1 q.2.2.2.2.2.2.2.2.2.2.2.1 q.2.2.2.2.2.2.2.2.2.2.2.2.1 q.2.2.2.2.2.2.2.2.2.2.2.2.2.1 q.2.2.2.2.2.2.2.2.2.2.2.2.2.2.1 ++ (wMR aJ aN.1 q.2.2.2.2.2.2.2.2.2.2.2.2.2.2.2.1 q.2.2.2.2.2.2.2.2.2.2.2.2.2.2.2.2.1 ++ wMP cI aN q.2.2.2.2.2.2.2.2.2.2.2.2.2.2.2.2.2.1 q.2.2.2.2.2.2.2.2.2.2.2.2.2.2.2.2.2.2.1 q.2.2.2.2.2.2.2.2.2.2.2.2.2.2.2.2.2.2.2)))))))) := by
  refine Met.ofW (cc := cX9_readMap) (maxL := 2) (ret := (some .int)) (by decide) rfl ?_
  intro p e s m args below meth c s₁ B hml hv
  obtain ⟨rfl, hsz, hP, hK, hD0, hN⟩ := hv
  have hx := B.exec
  have hb := B.bytes
  have hr := B.returns
  have hts := atoms_spec (ws := wsX9_readMap) B.pre
  have hown : s.vm.findClass RX9 = some m.cls := findClass_of_methodNamed B.named
  have hlocks := B.notSynchronized
  subst hsz
  have hD := hD0.self (sz := s.heap.size)
  generalize hAe : va_A (wVC aV aS aH.1 aT.1 xV3 aJ xV5 xV6 ++ (wSC aS aL.1 aR.1 aM.1 ++ (wBK cI aL vL0 vL1 vL2 vL3 ++ (wBK cI aR vR0 vR1 vR2 vR3 ++ (wMP cI aM vM0 vM1 vM2 ++ (wHI cI cS aH vH0 0 vH2 vH3 vH4 vH5 vH6 ++ (wTX cC aT vT0 vT1 vT2 vT3 vT4 vT5 ++ (wMR aJ aN.1 vJ0 vJ1 ++ wMP cI aN vN0 vN1 vN2)))))))) s.heap.size = A at hD ⊢
  have hA : ∀ q : Nat, s.heap.size ≤ q → A q := fun q h => by rw [← hAe]; exact Or.inr h
  have hS : va_S A s.heap s.heap [] := va_S.rf
  have huX1 : ∀ w ∈ u_ws RX1 TX1 3, w ∈ wsX9_readMap := by decide +kernel
  have huX4 : ∀ w ∈ u_ws RX4 TX4 3, w ∈ wsX9_readMap := by decide +kernel
  have huX7 : ∀ w ∈ u_ws RX7 TX7 3, w ∈ wsX9_readMap := by decide +kernel
  have huX9 : ∀ w ∈ u_ws RX9 TX9 7, w ∈ wsX9_readMap := by decide +kernel
  have hl := lv_entry ([.ref aV]) (n := 2) (Nat.le_of_ble_eq_true rfl)
  rw [lg_entry_eq]
  generalize (lg_sl ([.ref aV]) ++ List.replicate (2 - (lg_sl ([.ref aV])).length) Slot.unset).toArray = ls at hl ⊢
  have hl : lv_has ls 2 [(0, .ref aV)] := hl
  unfold pX9_readMap at h
  refine lv_aload_n hx hb dX9_readMap_0 rfl (lv_at hl 0 rfl) ?_
  refine va_get (D := D) (ci := 9) (v := .ref aJ) (C := RX9) (T := TX9) (N := 7) hx hb hts huX9 hown hK hP 0 rfl rfl 4 (by decide) (hts (.fieldLink RX9 40 "VerseColumns" "mapReader" "LVerseColumns$MapReader;") (by decide +kernel)) (fun _ h9 => h9) rfl dX9_readMap_1 ?_
  refine lv_aload_n hx hb dX9_readMap_4 rfl (lv_at hl 0 rfl) ?_
  refine va_get (D := D) (ci := 9) (v := .ref aT.1) (C := RX9) (T := TX9) (N := 7) hx hb hts huX9 hown hK hP 0 rfl rfl 2 (by decide) (hts (.fieldLink RX9 26 "VerseColumns" "text" "LVerseColumns$Text;") (by decide +kernel)) (fun _ h9 => h9) rfl dX9_readMap_5 ?_
  refine lv_aload_n hx hb dX9_readMap_8 rfl (lv_at hl 0 rfl) ?_
  refine va_get (D := D) (ci := 9) (v := .ref aS) (C := RX9) (T := TX9) (N := 7) hx hb hts huX9 hown hK hP 0 rfl rfl 0 (by decide) (hts (.fieldLink RX9 12 "VerseColumns" "state" "LVerseColumns$State;") (by decide +kernel)) (fun _ h9 => h9) rfl dX9_readMap_9 ?_
  obtain ⟨q2, h1, h⟩ := Option.bind_eq_some_iff.mp h
  refine kciw (ws' := (wVC aV aS aH.1 aT.1 xV3 aJ xV5 xV6 ++ (wSC aS aL.1 aR.1 aM.1 ++ (wBK cI aL vL0 vL1 vL2 vL3 ++ (wBK cI aR vR0 vR1 vR2 vR3 ++ (wMP cI aM vM0 vM1 vM2 ++ (wHI cI cS aH vH0 0 vH2 vH3 vH4 vH5 vH6 ++ (wTX cC aT vT0 vT1 q2.2.2.2.2.2.2.1 q2.2.2.2.2.2.2.2.1 q2.2.2.2.2.2.2.2.2.1 q2.2.2.2.2.2.2.2.2.2 ++ (wMR aJ aN.1 q2.2.1 q2.2.2.1 ++ wMP cI aN q2.2.2.2.1 q2.2.2.2.2.1 q2.2.2.2.2.2.1))))))))) [77, 78, 79, 80, 75, 76, 1, 2, 3, 4, 5, 6, 7, 8, 9] (va_runV (As := [.ref aT.1, .ref aS]) (rest := []) ⟨hx, hb, hml, hown, hts⟩ (kX4_read l D cI cC cS aJ vJ0 vJ1 aN vN0 vN1 vN2 aT vT0 vT1 vT2 vT3 vT4 vT5 aS aM.1 aL vL0 vL1 vL2 vL3 aR vR0 vR1 vR2 vR3 s.heap.size h1) (cwV 2 hts gX9_readMap_X4_read rfl rfl rfl (by decide +kernel) ⟨Nat.le_of_ble_eq_true rfl, Nat.le_of_ble_eq_true rfl⟩) (kpreV hK hN hP hD [77, 78, 79, 80, 75, 76, 1, 2, 3, 4, 5, 6, 7, 8, 9] rfl (by decide +kernel) 4 rfl rfl) rfl rfl hl.1 rfl (lv_room (Nat.le_of_ble_eq_true rfl)) dX9_readMap_12 ⟨Nat.le_refl _, Nat.le_refl _⟩) hP hD hS hA rfl (by decide +kernel) rfl [0, 7, 8, 9, 10, 11, 12, 13, 14, 15, 0, 0, 0, 0, 0, 0, 0, 0, 0, 0, 0, 0, 0, 0, 0, 0, 0, 0, 0, 0, 0, 0, 0, 0, 0, 0, 0, 0, 0, 0, 0, 0, 0, 0, 0, 0, 0, 0, 0, 0, 0, 0, 0, 0, 0, 0, 0, 0, 0, 0, 0, 0, 0, 0, 0, 0, 0, 0, 0, 0, 0, 0, 0, 0, 0, 5, 6, 1, 2, 3, 4] (by decide +kernel) rfl (fun H locs hP hD hS => ?_)
  refine lv_istore_n (lv' := [(1, .int q2.1), (0, .ref aV)]) hx hb dX9_readMap_15 rfl hl (by decide) rfl (fun ls hl => ?_)
  refine lv_iload_n hx hb dX9_readMap_16 rfl (lv_at hl 0 rfl) ?_
  refine lv_iconst (v := (-1 : Int32)) hx hb dX9_readMap_17 (by decide) ?_
  refine lv_icmp_eq (tgt := 26) hx hb dX9_readMap_18 (by decide) (fun g => ?_) (fun g => ?_)
  · rw [if_pos g] at h
    refine lv_aload_n hx hb dX9_readMap_26 rfl (lv_at hl 1 rfl) ?_
    refine va_get (D := D) (ci := 9) (v := .ref aH.1) (C := RX9) (T := TX9) (N := 7) hx hb hts huX9 hown hK hP 0 rfl rfl 1 (by decide) (hts (.fieldLink RX9 19 "VerseColumns" "history" "LVerseColumns$History;") (by decide +kernel)) (fun _ h9 => h9) rfl dX9_readMap_27 ?_
    refine lv_aload_n hx hb dX9_readMap_30 rfl (lv_at hl 1 rfl) ?_
    refine va_get (D := D) (ci := 9) (v := .ref aS) (C := RX9) (T := TX9) (N := 7) hx hb hts huX9 hown hK hP 0 rfl rfl 0 (by decide) (hts (.fieldLink RX9 12 "VerseColumns" "state" "LVerseColumns$State;") (by decide +kernel)) (fun _ h9 => h9) rfl dX9_readMap_31 ?_
    obtain ⟨q4, h3, h⟩ := Option.bind_eq_some_iff.mp h
    refine kcvw (ws' := (wVC aV aS aH.1 aT.1 xV3 aJ xV5 xV6 ++ (wSC aS aL.1 aR.1 aM.1 ++ (wBK cI aL vL0 vL1 vL2 vL3 ++ (wBK cI aR vR0 vR1 vR2 vR3 ++ (wMP cI aM vM0 vM1 vM2 ++ (wHI cI cS aH q4.1 q4.2.1 q4.2.2.1 q4.2.2.2.1 q4.2.2.2.2.1 q4.2.2.2.2.2.1 q4.2.2.2.2.2.2 ++ (wTX cC aT vT0 vT1 q2.2.2.2.2.2.2.1 q2.2.2.2.2.2.2.2.1 q2.2.2.2.2.2.2.2.2.1 q2.2.2.2.2.2.2.2.2.2 ++ (wMR aJ aN.1 q2.2.1 q2.2.2.1 ++ wMP cI aN q2.2.2.2.1 q2.2.2.2.2.1 q2.2.2.2.2.2.1))))))))) [13, 14, 15, 16, 17, 18, 19, 20, 21, 22, 23, 24, 25, 26, 27, 28, 29, 30, 31, 32, 33, 34, 35, 36, 37, 38, 39, 40, 41, 42, 43, 44, 45, 46, 47, 48, 49, 50, 51, 52, 53, 54, 55, 56, 57, 58, 59, 60, 61, 62, 63, 64, 65, 66, 67, 68, 69, 70, 71, 72, 73, 74, 1, 2, 3, 4, 5, 6, 7, 8, 9, 10, 11, 12] (va_runV (As := [.ref aS]) (rest := []) ⟨hx, hb, hml, hown, hts⟩ (kX2_record l D cI cC cS aH vH0 vH2 vH3 vH4 vH5 vH6 aS aL vL0 vL1 vL2 vL3 aR vR0 vR1 vR2 vR3 aM vM0 vM1 vM2 H.size h3) (cwV 1 hts gX9_readMap_X2_record rfl rfl rfl (by decide +kernel) ⟨Nat.le_of_ble_eq_true rfl, Nat.le_of_ble_eq_true rfl⟩) (kpreV hK hN hP hD [13, 14, 15, 16, 17, 18, 19, 20, 21, 22, 23, 24, 25, 26, 27, 28, 29, 30, 31, 32, 33, 34, 35, 36, 37, 38, 39, 40, 41, 42, 43, 44, 45, 46, 47, 48, 49, 50, 51, 52, 53, 54, 55, 56, 57, 58, 59, 60, 61, 62, 63, 64, 65, 66, 67, 68, 69, 70, 71, 72, 73, 74, 1, 2, 3, 4, 5, 6, 7, 8, 9, 10, 11, 12] rfl (by decide +kernel) 2 rfl rfl) rfl rfl hl.1 rfl (lv_room (Nat.le_of_ble_eq_true rfl)) dX9_readMap_34 ⟨Nat.le_refl _, Nat.le_refl _⟩) hP hD hS hA rfl (by decide +kernel) rfl [0, 63, 64, 65, 66, 67, 68, 69, 70, 71, 72, 73, 74, 1, 2, 3, 4, 5, 6, 7, 8, 9, 10, 11, 12, 13, 14, 15, 16, 17, 18, 19, 20, 21, 22, 23, 24, 25, 26, 27, 28, 29, 30, 31, 32, 33, 34, 35, 36, 37, 38, 39, 40, 41, 42, 43, 44, 45, 46, 47, 48, 49, 50, 51, 52, 53, 54, 55, 56, 57, 58, 59, 60, 61, 62, 0, 0, 0, 0, 0, 0] (by decide +kernel) rfl (fun H locs hP hD hS => ?_)
    refine lv_aload_n hx hb dX9_readMap_37 rfl (lv_at hl 1 rfl) ?_
    refine va_get (D := D) (ci := 9) (v := .ref aS) (C := RX9) (T := TX9) (N := 7) hx hb hts huX9 hown hK hP 0 rfl rfl 0 (by decide) (hts (.fieldLink RX9 12 "VerseColumns" "state" "LVerseColumns$State;") (by decide +kernel)) (fun _ h9 => h9) rfl dX9_readMap_38 ?_
    refine va_getN (D := D) (ci := 7) (v := .ref aM.1) (C := RX7) (T := TX7) (N := 3) hx hb hts huX7 hown hK hP 1 rfl rfl 2 (by decide) (hN.f 11 rfl) (fun _ h9 => h9) rfl dX9_readMap_41 ?_
    refine lv_aload_n hx hb dX9_readMap_44 rfl (lv_at hl 1 rfl) ?_
    refine va_get (D := D) (ci := 9) (v := .ref aJ) (C := RX9) (T := TX9) (N := 7) hx hb hts huX9 hown hK hP 0 rfl rfl 4 (by decide) (hts (.fieldLink RX9 40 "VerseColumns" "mapReader" "LVerseColumns$MapReader;") (by decide +kernel)) (fun _ h9 => h9) rfl dX9_readMap_45 ?_
    refine va_getN (D := D) (ci := 4) (v := .ref aN.1) (C := RX4) (T := TX4) (N := 3) hx hb hts huX4 hown hK hP 77 rfl rfl 0 (by decide) (hN.f 23 rfl) (fun _ h9 => h9) rfl dX9_readMap_48 ?_
    obtain ⟨q6, h5, h⟩ := Option.bind_eq_some_iff.mp h
    refine kcvw (ws' := (wVC aV aS aH.1 aT.1 xV3 aJ xV5 xV6 ++ (wSC aS aL.1 aR.1 aM.1 ++ (wBK cI aL vL0 vL1 vL2 vL3 ++ (wBK cI aR vR0 vR1 vR2 vR3 ++ (wMP cI aM q6.1 q6.2.1 q6.2.2 ++ (wHI cI cS aH q4.1 q4.2.1 q4.2.2.1 q4.2.2.2.1 q4.2.2.2.2.1 q4.2.2.2.2.2.1 q4.2.2.2.2.2.2 ++ (wTX cC aT vT0 vT1 q2.2.2.2.2.2.2.1 q2.2.2.2.2.2.2.2.1 q2.2.2.2.2.2.2.2.2.1 q2.2.2.2.2.2.2.2.2.2 ++ (wMR aJ aN.1 q2.2.1 q2.2.2.1 ++ wMP cI aN q2.2.2.2.1 q2.2.2.2.2.1 q2.2.2.2.2.2.1))))))))) [10, 11, 12, 78, 79, 80] (va_runV (As := [.ref aN.1]) (rest := []) ⟨hx, hb, hml, hown, hts⟩ (kX1_copyFrom l D cI cC cS aM vM0 vM1 vM2 aN q2.2.2.2.1 q2.2.2.2.2.1 q2.2.2.2.2.2.1 H.size h5) (cwV 1 hts gX9_readMap_X1_copyFrom rfl rfl rfl (by decide +kernel) ⟨Nat.le_of_ble_eq_true rfl, Nat.le_of_ble_eq_true rfl⟩) (kpreV hK hN hP hD [10, 11, 12, 78, 79, 80] rfl (by decide) 1 rfl rfl) rfl rfl hl.1 rfl (lv_room (Nat.le_of_ble_eq_true rfl)) dX9_readMap_51 ⟨Nat.le_refl _, Nat.le_refl _⟩) hP hD hS hA rfl (by decide) rfl [0, 0, 0, 0, 0, 0, 0, 0, 0, 0, 1, 2, 3, 0, 0, 0, 0, 0, 0, 0, 0, 0, 0, 0, 0, 0, 0, 0, 0, 0, 0, 0, 0, 0, 0, 0, 0, 0, 0, 0, 0, 0, 0, 0, 0, 0, 0, 0, 0, 0, 0, 0, 0, 0, 0, 0, 0, 0, 0, 0, 0, 0, 0, 0, 0, 0, 0, 0, 0, 0, 0, 0, 0, 0, 0, 0, 0, 0, 4, 5, 6] (by decide +kernel) rfl (fun H locs hP hD hS => ?_)
    refine lv_aload_n hx hb dX9_readMap_54 rfl (lv_at hl 1 rfl) ?_
    refine va_get (D := D) (ci := 9) (v := .ref aS) (C := RX9) (T := TX9) (N := 7) hx hb hts huX9 hown hK hP 0 rfl rfl 0 (by decide) (hts (.fieldLink RX9 12 "VerseColumns" "state" "LVerseColumns$State;") (by decide +kernel)) (fun _ h9 => h9) rfl dX9_readMap_55 ?_
    refine va_getN (D := D) (ci := 7) (v := .ref aM.1) (C := RX7) (T := TX7) (N := 3) hx hb hts huX7 hown hK hP 1 rfl rfl 2 (by decide) (hN.f 11 rfl) (fun _ h9 => h9) rfl dX9_readMap_58 ?_
    refine va_getN (D := D) (ci := 1) (v := .int q6.2.2) (C := RX1) (T := TX1) (N := 3) hx hb hts huX1 hown hK hP 10 rfl rfl 2 (by decide) (hN.f 4 rfl) (fun _ h9 => h9) rfl dX9_readMap_61 ?_
    obtain rfl := Option.some.inj h
    exact W.iret (v := q6.2.2) hx hb hr (fun t ht hW => ⟨⟨_, (), rfl, rfl, by rw [ht]; exact hP, hD⟩, hS.F ht⟩) hS.2.2 dX9_readMap_64
  · rw [if_neg g] at h
    refine lv_bipush (v := (-100 : Int32)) hx hb dX9_readMap_21 (by decide) ?_
    refine lv_iload_n hx hb dX9_readMap_23 rfl (lv_at hl 0 rfl) ?_
    refine lv_isub hx hb dX9_readMap_24 ?_
    obtain rfl := Option.some.inj h
    exact W.iret (v := ((-100 : Int32) - q2.1)) hx hb hr (fun t ht hW => ⟨⟨_, (), rfl, rfl, by rw [ht]; exact hP, hD⟩, hS.F ht⟩) hS.2.2 dX9_readMap_25
set_option maxHeartbeats 8000000 in
set_option maxRecDepth 100000 in
theorem kX9_type (l : Launch) (D : va_G) (cI cC cS : ClassId) (aV : Nat) (xV0 : Nat) (xV1 : Nat) (xV3 : Nat) (xV4 : Nat) (xV5 : Nat) (xV6 : Nat) (aT : Nat × Nat) (vT0 : (Nat → Int32)) (vT1 : Int32) (vT2 : Int32) (vT3 : Int32) (vT4 : Int32) (vT5 : Int32) (i1 : Int32) (sz : Nat) {q : Int32 × (Nat → Int32) × Int32} (h : pX9_type vT0 vT1 i1 = some q) : kMi l yX9_type wsX9_type ({ frames := 2, cells := 0, slots := 0, locals := 43 } : Room) D (kTy cI cC cS) [.ref aV, .int i1] (wVC aV xV0 xV1 aT.1 xV3 xV4 xV5 xV6 ++ wTX cC aT vT0 vT1 vT2 vT3 vT4 vT5) sz q.1 (wVC aV xV0 xV1 aT.1 xV3 xV4 xV5 xV6 ++ wTX cC aT q.2.1 q.2.2 vT2 vT3 vT4 vT5) := by
  refine Met.ofW (cc := cX9_type) (maxL := 2) (ret := (some .int)) (by decide) rfl ?_
  intro p e s m args below meth c s₁ B hml hv
  obtain ⟨rfl, hsz, hP, hK, hD0, hN⟩ := hv
  have hx := B.exec
  have hb := B.bytes
  have hr := B.returns
  have hts := atoms_spec (ws := wsX9_type) B.pre
  have hown : s.vm.findClass RX9 = some m.cls := findClass_of_methodNamed B.named
  have hlocks := B.notSynchronized
  subst hsz
  have hD := hD0.self (sz := s.heap.size)
  generalize hAe : va_A (wVC aV xV0 xV1 aT.1 xV3 xV4 xV5 xV6 ++ wTX cC aT vT0 vT1 vT2 vT3 vT4 vT5) s.heap.size = A at hD ⊢
  have hA : ∀ q : Nat, s.heap.size ≤ q → A q := fun q h => by rw [← hAe]; exact Or.inr h
  have hS : va_S A s.heap s.heap [] := va_S.rf
  have huX8 : ∀ w ∈ u_ws RX8 TX8 6, w ∈ wsX9_type := by decide +kernel
  have huX9 : ∀ w ∈ u_ws RX9 TX9 7, w ∈ wsX9_type := by decide +kernel
  have hl := lv_entry ([.ref aV, .int i1]) (n := 2) (Nat.le_of_ble_eq_true rfl)
  rw [lg_entry_eq]
  generalize (lg_sl ([.ref aV, .int i1]) ++ List.replicate (2 - (lg_sl ([.ref aV, .int i1])).length) Slot.unset).toArray = ls at hl ⊢
  have hl : lv_has ls 2 [(0, .ref aV), (1, .int i1)] := hl
  unfold pX9_type at h
  refine lv_aload_n hx hb dX9_type_0 rfl (lv_at hl 0 rfl) ?_
  refine va_get (D := D) (ci := 9) (v := .ref aT.1) (C := RX9) (T := TX9) (N := 7) hx hb hts huX9 hown hK hP 0 rfl rfl 2 (by decide) (hts (.fieldLink RX9 26 "VerseColumns" "text" "LVerseColumns$Text;") (by decide +kernel)) (fun _ h9 => h9) rfl dX9_type_1 ?_
  refine lv_iload_n hx hb dX9_type_4 rfl (lv_at hl 1 rfl) ?_
  obtain ⟨q2, h1, h⟩ := Option.bind_eq_some_iff.mp h
  refine kciw (ws' := (wVC aV xV0 xV1 aT.1 xV3 xV4 xV5 xV6 ++ wTX cC aT q2.2.1 q2.2.2 vT2 vT3 vT4 vT5)) [1, 2] (va_runV (As := [.int i1]) (rest := []) ⟨hx, hb, hml, hown, hts⟩ (kX8_append l D cI cC cS aT vT0 vT1 vT2 vT3 vT4 vT5 i1 s.heap.size h1) (cwV 1 hts gX9_type_X8_append rfl rfl rfl (by decide +kernel) ⟨Nat.le_of_ble_eq_true rfl, Nat.le_of_ble_eq_true rfl⟩) (kpreV hK hN hP hD [1, 2] rfl (by decide) 8 rfl rfl) rfl rfl hl.1 rfl (lv_room (Nat.le_of_ble_eq_true rfl)) dX9_type_5 ⟨Nat.le_refl _, Nat.le_refl _⟩) hP hD hS hA rfl (by decide) rfl [0, 1, 2] (by decide +kernel) rfl (fun H locs hP hD hS => ?_)
  refine lv_if_eq (tgt := 21) hx hb dX9_type_8 (by decide) (fun g => ?_) (fun g => ?_)
  · rw [if_pos g] at h
    refine lv_bipush (v := (-3 : Int32)) hx hb dX9_type_21 (by decide) ?_
    obtain rfl := Option.some.inj h
    exact W.iret (v := (-3 : Int32)) hx hb hr (fun t ht hW => ⟨⟨_, (), rfl, rfl, by rw [ht]; exact hP, hD⟩, hS.F ht⟩) hS.2.2 dX9_type_23
  · rw [if_neg g] at h
    refine lv_aload_n hx hb dX9_type_11 rfl (lv_at hl 0 rfl) ?_
    refine va_get (D := D) (ci := 9) (v := .ref aT.1) (C := RX9) (T := TX9) (N := 7) hx hb hts huX9 hown hK hP 0 rfl rfl 2 (by decide) (hts (.fieldLink RX9 26 "VerseColumns" "text" "LVerseColumns$Text;") (by decide +kernel)) (fun _ h9 => h9) rfl dX9_type_12 ?_
    refine va_getN (D := D) (ci := 8) (v := .int q2.2.2) (C := RX8) (T := TX8) (N := 6) hx hb hts huX8 hown hK hP 1 rfl rfl 1 (by decide) (hN.f 15 rfl) (fun _ h9 => h9) rfl dX9_type_15 ?_
    refine lv_goto (tgt := 23) hx hb dX9_type_18 (by decide) ?_
    obtain rfl := Option.some.inj h
    exact W.iret (v := q2.2.2) hx hb hr (fun t ht hW => ⟨⟨_, (), rfl, rfl, by rw [ht]; exact hP, hD⟩, hS.F ht⟩) hS.2.2 dX9_type_23
set_option maxHeartbeats 8000000 in
set_option maxRecDepth 100000 in
theorem kX9_clearText (l : Launch) (D : va_G) (cI cC cS : ClassId) (aV : Nat) (xV0 : Nat) (xV1 : Nat) (xV3 : Nat) (xV4 : Nat) (xV5 : Nat) (xV6 : Nat) (aT : Nat × Nat) (vT0 : (Nat → Int32)) (vT1 : Int32) (vT2 : Int32) (vT3 : Int32) (vT4 : Int32) (vT5 : Int32) (sz : Nat) {q : Int32 × Int32} (h : pX9_clearText vT1 = some q) : kMi l yX9_clearText wsX9_clearText ({ frames := 1, cells := 0, slots := 0, locals := 20 } : Room) D (kTy cI cC cS) [.ref aV] (wVC aV xV0 xV1 aT.1 xV3 xV4 xV5 xV6 ++ wTX cC aT vT0 vT1 vT2 vT3 vT4 vT5) sz q.1 (wVC aV xV0 xV1 aT.1 xV3 xV4 xV5 xV6 ++ wTX cC aT vT0 q.2 vT2 vT3 vT4 vT5) := by
  refine Met.ofW (cc := cX9_clearText) (maxL := 2) (ret := (some .int)) (by decide) rfl ?_
  intro p e s m args below meth c s₁ B hml hv
  obtain ⟨rfl, hsz, hP, hK, hD0, hN⟩ := hv
  have hx := B.exec
  have hb := B.bytes
  have hr := B.returns
  have hts := atoms_spec (ws := wsX9_clearText) B.pre
  have hown : s.vm.findClass RX9 = some m.cls := findClass_of_methodNamed B.named
  have hlocks := B.notSynchronized
  subst hsz
  have hD := hD0.self (sz := s.heap.size)
  generalize hAe : va_A (wVC aV xV0 xV1 aT.1 xV3 xV4 xV5 xV6 ++ wTX cC aT vT0 vT1 vT2 vT3 vT4 vT5) s.heap.size = A at hD ⊢
  have hA : ∀ q : Nat, s.heap.size ≤ q → A q := fun q h => by rw [← hAe]; exact Or.inr h
  have hS : va_S A s.heap s.heap [] := va_S.rf
  have huX8 : ∀ w ∈ u_ws RX8 TX8 6, w ∈ wsX9_clearText := by decide +kernel
  have huX9 : ∀ w ∈ u_ws RX9 TX9 7, w ∈ wsX9_clearText := by decide +kernel
  have hl := lv_entry ([.ref aV]) (n := 2) (Nat.le_of_ble_eq_true rfl)
  rw [lg_entry_eq]
  generalize (lg_sl ([.ref aV]) ++ List.replicate (2 - (lg_sl ([.ref aV])).length) Slot.unset).toArray = ls at hl ⊢
  have hl : lv_has ls 2 [(0, .ref aV)] := hl
  unfold pX9_clearText at h
  refine lv_aload_n hx hb dX9_clearText_0 rfl (lv_at hl 0 rfl) ?_
  refine va_get (D := D) (ci := 9) (v := .ref aT.1) (C := RX9) (T := TX9) (N := 7) hx hb hts huX9 hown hK hP 0 rfl rfl 2 (by decide) (hts (.fieldLink RX9 26 "VerseColumns" "text" "LVerseColumns$Text;") (by decide +kernel)) (fun _ h9 => h9) rfl dX9_clearText_1 ?_
  refine va_getN (D := D) (ci := 8) (v := .int vT1) (C := RX8) (T := TX8) (N := 6) hx hb hts huX8 hown hK hP 1 rfl rfl 1 (by decide) (hN.f 15 rfl) (fun _ h9 => h9) rfl dX9_clearText_4 ?_
  refine lv_istore_n (lv' := [(1, .int vT1), (0, .ref aV)]) hx hb dX9_clearText_7 rfl hl (by decide) rfl (fun ls hl => ?_)
  refine lv_aload_n hx hb dX9_clearText_8 rfl (lv_at hl 1 rfl) ?_
  refine va_get (D := D) (ci := 9) (v := .ref aT.1) (C := RX9) (T := TX9) (N := 7) hx hb hts huX9 hown hK hP 0 rfl rfl 2 (by decide) (hts (.fieldLink RX9 26 "VerseColumns" "text" "LVerseColumns$Text;") (by decide +kernel)) (fun _ h9 => h9) rfl dX9_clearText_9 ?_
  obtain ⟨q2, h1, h⟩ := Option.bind_eq_some_iff.mp h
  refine kcvw (ws' := (wVC aV xV0 xV1 aT.1 xV3 xV4 xV5 xV6 ++ wTX cC aT vT0 q2 vT2 vT3 vT4 vT5)) [1, 2] (va_runV (As := []) (rest := []) ⟨hx, hb, hml, hown, hts⟩ (kX8_clear l D cI cC cS aT vT0 vT1 vT2 vT3 vT4 vT5 s.heap.size h1) (cwV 0 hts gX9_clearText_X8_clear rfl rfl rfl (by decide +kernel) ⟨Nat.le_of_ble_eq_true rfl, Nat.le_of_ble_eq_true rfl⟩) (kpreV hK hN hP hD [1, 2] rfl (by decide) 8 rfl rfl) rfl rfl hl.1 rfl (lv_room (Nat.le_of_ble_eq_true rfl)) dX9_clearText_12 ⟨Nat.le_refl _, Nat.le_refl _⟩) hP hD hS hA rfl (by decide) rfl [0, 1, 2] (by decide +kernel) rfl (fun H locs hP hD hS => ?_)
  refine lv_iload_n hx hb dX9_clearText_15 rfl (lv_at hl 0 rfl) ?_
  obtain rfl := Option.some.inj h
  exact W.iret (v := vT1) hx hb hr (fun t ht hW => ⟨⟨_, (), rfl, rfl, by rw [ht]; exact hP, hD⟩, hS.F ht⟩) hS.2.2 dX9_clearText_16
