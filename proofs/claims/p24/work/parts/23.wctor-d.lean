-- the exchange of both books (printed by wip/whole/gen/wexch.py)
def pX9_exchange (vL0 : (Nat → Int32)) (vL1 : (Nat → Int32)) (vL2 : (Nat → Int32)) (vL3 : Int32) (vR0 : (Nat → Int32)) (vR1 : (Nat → Int32)) (vR2 : (Nat → Int32)) (vR3 : Int32) (vM0 : (Nat → Int32)) (vM1 : (Nat → Int32)) (vM2 : Int32) (vH0 : Int32) (vH2 : vST) (vH3 : vST) (vH4 : vST) (vH5 : vST) (vH6 : vST) : Option (Int32 × Int32 × Nat × vST × vST × vST × vST × vST) := ((pX2_record vH0 vH2 vH3 vH4 vH5 vH6 vL0 vL1 vL2 vL3 vR0 vR1 vR2 vR3 vM0 vM1 vM2).bind fun q2 => ((pX1_alikeTotal vM1 vM0 vM2).bind fun q3 => some (q3, q2.1, q2.2.1, q2.2.2.1, q2.2.2.2.1, q2.2.2.2.2.1, q2.2.2.2.2.2.1, q2.2.2.2.2.2.2)))
set_option maxHeartbeats 8000000 in
set_option maxRecDepth 100000 in
theorem kX1_swapBooks (l : Launch) (D : va_G) (cI cC cS : ClassId) (a x0 x1 : Nat) (v : Int32) (sz : Nat) : kMv l yX1_swapBooks wsX1_swapBooks ({ frames := 0, cells := 0, slots := 0, locals := 0 } : Room) D (kTy cI cC cS) [.ref a] (wMO a x0 x1 v) sz (wMO a x1 x0 v) := by
  refine Met.ofW (cc := cX1_swapBooks) (maxL := 2) (ret := none) (by decide) rfl ?_
  intro p e s m args below meth c s₁ B hml hv
  obtain ⟨rfl, hsz, hP, hK, hD0, hN⟩ := hv
  have hx := B.exec
  have hb := B.bytes
  have hr := B.returns
  have hts := atoms_spec (ws := wsX1_swapBooks) B.pre
  have hown : s.vm.findClass RX1 = some m.cls := findClass_of_methodNamed B.named
  have hlocks := B.notSynchronized
  subst hsz
  have hD := hD0.self (sz := s.heap.size)
  generalize hAe : va_A (wMO a x0 x1 v) s.heap.size = A at hD ⊢
  have hA : ∀ q : Nat, s.heap.size ≤ q → A q := fun q h => by rw [← hAe]; exact Or.inr h
  have hS : va_S A s.heap s.heap [] := va_S.rf
  have huX1 : ∀ w ∈ u_ws RX1 TX1 3, w ∈ wsX1_swapBooks := by decide +kernel
  have hl := lv_entry ([.ref a]) (n := 2) (Nat.le_of_ble_eq_true rfl)
  rw [lg_entry_eq]
  generalize (lg_sl ([.ref a]) ++ List.replicate (2 - (lg_sl ([.ref a])).length) Slot.unset).toArray = ls at hl ⊢
  have hl : lv_has ls 2 [(0, .ref a)] := hl
  refine lv_aload_n hx hb dX1_swapBooks_0 rfl (lv_at hl 0 rfl) ?_
  refine va_get (D := D) (ci := 1) (v := .ref x0) (C := RX1) (T := TX1) (N := 3) hx hb hts huX1 hown hK hP 0 rfl rfl 0 (by decide) (hts (.fieldLink RX1 9 "VerseColumns$GroupMap" "left" "[I") (by decide +kernel)) (fun _ h9 => h9) rfl dX1_swapBooks_1 ?_
  refine lv_astore_n (lv' := [(1, .ref x0), (0, .ref a)]) hx hb dX1_swapBooks_4 rfl hl (by decide) rfl (fun ls hl => ?_)
  refine lv_aload_n hx hb dX1_swapBooks_5 rfl (lv_at hl 1 rfl) ?_
  refine lv_aload_n hx hb dX1_swapBooks_6 rfl (lv_at hl 1 rfl) ?_
  refine va_get (D := D) (ci := 1) (v := .ref x1) (C := RX1) (T := TX1) (N := 3) hx hb hts huX1 hown hK hP 0 rfl rfl 1 (by decide) (hts (.fieldLink RX1 15 "VerseColumns$GroupMap" "right" "[I") (by decide +kernel)) (fun _ h9 => h9) rfl dX1_swapBooks_7 ?_
  refine va_put (D := D) (ci := 1) (v := .ref x1) (ty := .array .int) (C := RX1) (T := TX1) (N := 3) hx hb hts huX1 tyX1 tyX1_ok nmX1 hown hK hP hD hS 0 rfl rfl 0 (by decide) (hts (.fieldLink RX1 9 "VerseColumns$GroupMap" "left" "[I") (by decide +kernel)) (fun _ h9 => h9) rfl (by decide +kernel) rfl rfl (Nat.le_of_ble_eq_true rfl) dX1_swapBooks_10 (fun H locs hP hD hS => ?_)
  have hP : va_P D vwCl (wMO a x1 x1 v) H := hP
  have hD : va_D A (wMO a x1 x1 v) := hD
  refine lv_aload_n hx hb dX1_swapBooks_13 rfl (lv_at hl 1 rfl) ?_
  refine lv_aload_n hx hb dX1_swapBooks_14 rfl (lv_at hl 0 rfl) ?_
  refine va_put (D := D) (ci := 1) (v := .ref x0) (ty := .array .int) (C := RX1) (T := TX1) (N := 3) hx hb hts huX1 tyX1 tyX1_ok nmX1 hown hK hP hD hS 0 rfl rfl 1 (by decide) (hts (.fieldLink RX1 15 "VerseColumns$GroupMap" "right" "[I") (by decide +kernel)) (fun _ h9 => h9) rfl (by decide +kernel) rfl rfl (Nat.le_of_ble_eq_true rfl) dX1_swapBooks_15 (fun H locs hP hD hS => ?_)
  have hP : va_P D vwCl (wMO a x1 x0 v) H := hP
  have hD : va_D A (wMO a x1 x0 v) := hD
  exact W.vret hx hb hr (fun t ht hW => ⟨⟨(), rfl, trivial, by rw [ht]; exact hP, hD⟩, hS.F ht⟩) hS.2.2 dX1_swapBooks_18
set_option maxHeartbeats 8000000 in
set_option maxRecDepth 100000 in
theorem kX7_swapBooks (l : Launch) (D : va_G) (cI cC cS : ClassId) (aS xl xr a x0 x1 : Nat) (v : Int32) (sz : Nat) : kMv l yX7_swapBooks wsX7_swapBooks ({ frames := 1, cells := 0, slots := 0, locals := 21 } : Room) D (kTy cI cC cS) [.ref aS] (wSC aS xl xr a ++ wMO a x0 x1 v) sz (wSC aS xr xl a ++ wMO a x1 x0 v) := by
  refine Met.ofW (cc := cX7_swapBooks) (maxL := 2) (ret := none) (by decide) rfl ?_
  intro p e s m args below meth c s₁ B hml hv
  obtain ⟨rfl, hsz, hP, hK, hD0, hN⟩ := hv
  have hx := B.exec
  have hb := B.bytes
  have hr := B.returns
  have hts := atoms_spec (ws := wsX7_swapBooks) B.pre
  have hown : s.vm.findClass RX7 = some m.cls := findClass_of_methodNamed B.named
  have hlocks := B.notSynchronized
  subst hsz
  have hD := hD0.self (sz := s.heap.size)
  generalize hAe : va_A (wSC aS xl xr a ++ wMO a x0 x1 v) s.heap.size = A at hD ⊢
  have hA : ∀ q : Nat, s.heap.size ≤ q → A q := fun q h => by rw [← hAe]; exact Or.inr h
  have hS : va_S A s.heap s.heap [] := va_S.rf
  have huX7 : ∀ w ∈ u_ws RX7 TX7 3, w ∈ wsX7_swapBooks := by decide +kernel
  have hl := lv_entry ([.ref aS]) (n := 2) (Nat.le_of_ble_eq_true rfl)
  rw [lg_entry_eq]
  generalize (lg_sl ([.ref aS]) ++ List.replicate (2 - (lg_sl ([.ref aS])).length) Slot.unset).toArray = ls at hl ⊢
  have hl : lv_has ls 2 [(0, .ref aS)] := hl
  refine lv_aload_n hx hb dX7_swapBooks_0 rfl (lv_at hl 0 rfl) ?_
  refine va_get (D := D) (ci := 7) (v := .ref xl) (C := RX7) (T := TX7) (N := 3) hx hb hts huX7 hown hK hP 0 rfl rfl 0 (by decide) (hts (.fieldLink RX7 12 "VerseColumns$State" "left" "LVerseColumns$Book;") (by decide +kernel)) (fun _ h9 => h9) rfl dX7_swapBooks_1 ?_
  refine lv_astore_n (lv' := [(1, .ref xl), (0, .ref aS)]) hx hb dX7_swapBooks_4 rfl hl (by decide) rfl (fun ls hl => ?_)
  refine lv_aload_n hx hb dX7_swapBooks_5 rfl (lv_at hl 1 rfl) ?_
  refine lv_aload_n hx hb dX7_swapBooks_6 rfl (lv_at hl 1 rfl) ?_
  refine va_get (D := D) (ci := 7) (v := .ref xr) (C := RX7) (T := TX7) (N := 3) hx hb hts huX7 hown hK hP 0 rfl rfl 1 (by decide) (hts (.fieldLink RX7 18 "VerseColumns$State" "right" "LVerseColumns$Book;") (by decide +kernel)) (fun _ h9 => h9) rfl dX7_swapBooks_7 ?_
  refine va_put (D := D) (ci := 7) (v := .ref xr) (ty := .object "VerseColumns$Book") (C := RX7) (T := TX7) (N := 3) hx hb hts huX7 tyX7 tyX7_ok nmX7 hown hK hP hD hS 0 rfl rfl 0 (by decide) (hts (.fieldLink RX7 12 "VerseColumns$State" "left" "LVerseColumns$Book;") (by decide +kernel)) (fun _ h9 => h9) rfl (by decide +kernel) rfl rfl (Nat.le_of_ble_eq_true rfl) dX7_swapBooks_10 (fun H locs hP hD hS => ?_)
  have hP : va_P D vwCl (wSC aS xr xr a ++ wMO a x0 x1 v) H := hP
  have hD : va_D A (wSC aS xr xr a ++ wMO a x0 x1 v) := hD
  refine lv_aload_n hx hb dX7_swapBooks_13 rfl (lv_at hl 1 rfl) ?_
  refine lv_aload_n hx hb dX7_swapBooks_14 rfl (lv_at hl 0 rfl) ?_
  refine va_put (D := D) (ci := 7) (v := .ref xl) (ty := .object "VerseColumns$Book") (C := RX7) (T := TX7) (N := 3) hx hb hts huX7 tyX7 tyX7_ok nmX7 hown hK hP hD hS 0 rfl rfl 1 (by decide) (hts (.fieldLink RX7 18 "VerseColumns$State" "right" "LVerseColumns$Book;") (by decide +kernel)) (fun _ h9 => h9) rfl (by decide +kernel) rfl rfl (Nat.le_of_ble_eq_true rfl) dX7_swapBooks_15 (fun H locs hP hD hS => ?_)
  have hP : va_P D vwCl (wSC aS xr xl a ++ wMO a x0 x1 v) H := hP
  have hD : va_D A (wSC aS xr xl a ++ wMO a x0 x1 v) := hD
  refine lv_aload_n hx hb dX7_swapBooks_18 rfl (lv_at hl 1 rfl) ?_
  refine va_get (D := D) (ci := 7) (v := .ref a) (C := RX7) (T := TX7) (N := 3) hx hb hts huX7 hown hK hP 0 rfl rfl 2 (by decide) (hts (.fieldLink RX7 24 "VerseColumns$State" "map" "LVerseColumns$GroupMap;") (by decide +kernel)) (fun _ h9 => h9) rfl dX7_swapBooks_19 ?_
  refine kcvw (ws' := (wSC aS xr xl a ++ wMO a x1 x0 v)) [1] (va_runV (As := []) (rest := []) ⟨hx, hb, hml, hown, hts⟩ (kX1_swapBooks l D cI cC cS a x0 x1 v H.size) (cwV 0 hts gX7_swapBooks_X1_swapBooks rfl rfl rfl (by decide +kernel) ⟨Nat.le_of_ble_eq_true rfl, Nat.le_of_ble_eq_true rfl⟩) (kpreV hK hN hP hD [1] rfl (by decide) 1 rfl rfl) rfl rfl hl.1 rfl (lv_room (Nat.le_of_ble_eq_true rfl)) dX7_swapBooks_22 ⟨Nat.le_refl _, Nat.le_refl _⟩) hP hD hS hA rfl (by decide) rfl [0, 1] (by decide +kernel) rfl (fun H locs hP hD hS => ?_)
  exact W.vret hx hb hr (fun t ht hW => ⟨⟨(), rfl, trivial, by rw [ht]; exact hP, hD⟩, hS.F ht⟩) hS.2.2 dX7_swapBooks_25
set_option maxHeartbeats 8000000 in
set_option maxRecDepth 100000 in
theorem kX9_exchange (l : Launch) (D : va_G) (cI cC cS : ClassId) (aV : Nat) (xV2 : Nat) (xV3 : Nat) (xV4 : Nat) (xV5 : Nat) (xV6 : Nat) (aS : Nat) (aL : Nat × Nat × Nat × Nat) (vL0 : (Nat → Int32)) (vL1 : (Nat → Int32)) (vL2 : (Nat → Int32)) (vL3 : Int32) (aR : Nat × Nat × Nat × Nat) (vR0 : (Nat → Int32)) (vR1 : (Nat → Int32)) (vR2 : (Nat → Int32)) (vR3 : Int32) (aM : Nat × Nat × Nat) (vM0 : (Nat → Int32)) (vM1 : (Nat → Int32)) (vM2 : Int32) (aH : aHI) (vH0 : Int32) (vH2 : vST) (vH3 : vST) (vH4 : vST) (vH5 : vST) (vH6 : vST) (sz : Nat) {q : Int32 × Int32 × Nat × vST × vST × vST × vST × vST} (h : pX9_exchange vL0 vL1 vL2 vL3 vR0 vR1 vR2 vR3 vM0 vM1 vM2 vH0 vH2 vH3 vH4 vH5 vH6 = some q) : kMi l yX9_exchange wsX9_exchange ({ frames := 6, cells := 0, slots := 0, locals := 140 } : Room) D (kTy cI cC cS) [.ref aV] (wVC aV aS aH.1 xV2 xV3 xV4 xV5 xV6 ++ (wSC aS aL.1 aR.1 aM.1 ++ (wBK cI aL vL0 vL1 vL2 vL3 ++ (wBK cI aR vR0 vR1 vR2 vR3 ++ (wMP cI aM vM0 vM1 vM2 ++ wHI cI cS aH vH0 0 vH2 vH3 vH4 vH5 vH6))))) sz q.1 (wVC aV aS aH.1 xV2 xV3 xV4 xV5 xV6 ++ (wSC aS aR.1 aL.1 aM.1 ++ (wBK cI aL vL0 vL1 vL2 vL3 ++ (wBK cI aR vR0 vR1 vR2 vR3 ++ (wMX cI aM vM0 vM1 vM2 ++ wHI cI cS aH q.2.1 q.2.2.1 q.2.2.2.1 q.2.2.2.2.1 q.2.2.2.2.2.1 q.2.2.2.2.2.2.1 q.2.2.2.2.2.2.2))))) := by
  refine Met.ofW (cc := cX9_exchange) (maxL := 1) (ret := (some .int)) (by decide) rfl ?_
  intro p e s m args below meth c s₁ B hml hv
  obtain ⟨rfl, hsz, hP, hK, hD0, hN⟩ := hv
  have hx := B.exec
  have hb := B.bytes
  have hr := B.returns
  have hts := atoms_spec (ws := wsX9_exchange) B.pre
  have hown : s.vm.findClass RX9 = some m.cls := findClass_of_methodNamed B.named
  have hlocks := B.notSynchronized
  subst hsz
  have hD := hD0.self (sz := s.heap.size)
  generalize hAe : va_A (wVC aV aS aH.1 xV2 xV3 xV4 xV5 xV6 ++ (wSC aS aL.1 aR.1 aM.1 ++ (wBK cI aL vL0 vL1 vL2 vL3 ++ (wBK cI aR vR0 vR1 vR2 vR3 ++ (wMP cI aM vM0 vM1 vM2 ++ wHI cI cS aH vH0 0 vH2 vH3 vH4 vH5 vH6))))) s.heap.size = A at hD ⊢
  have hA : ∀ q : Nat, s.heap.size ≤ q → A q := fun q h => by rw [← hAe]; exact Or.inr h
  have hS : va_S A s.heap s.heap [] := va_S.rf
  have huX7 : ∀ w ∈ u_ws RX7 TX7 3, w ∈ wsX9_exchange := by decide +kernel
  have huX9 : ∀ w ∈ u_ws RX9 TX9 7, w ∈ wsX9_exchange := by decide +kernel
  have hl := lv_entry ([.ref aV]) (n := 1) (Nat.le_of_ble_eq_true rfl)
  rw [lg_entry_eq]
  generalize (lg_sl ([.ref aV]) ++ List.replicate (1 - (lg_sl ([.ref aV])).length) Slot.unset).toArray = ls at hl ⊢
  have hl : lv_has ls 1 [(0, .ref aV)] := hl
  unfold pX9_exchange at h
  refine lv_aload_n hx hb dX9_exchange_0 rfl (lv_at hl 0 rfl) ?_
  refine va_get (D := D) (ci := 9) (v := .ref aH.1) (C := RX9) (T := TX9) (N := 7) hx hb hts huX9 hown hK hP 0 rfl rfl 1 (by decide) (hts (.fieldLink RX9 19 "VerseColumns" "history" "LVerseColumns$History;") (by decide +kernel)) (fun _ h9 => h9) rfl dX9_exchange_1 ?_
  refine lv_aload_n hx hb dX9_exchange_4 rfl (lv_at hl 0 rfl) ?_
  refine va_get (D := D) (ci := 9) (v := .ref aS) (C := RX9) (T := TX9) (N := 7) hx hb hts huX9 hown hK hP 0 rfl rfl 0 (by decide) (hts (.fieldLink RX9 12 "VerseColumns" "state" "LVerseColumns$State;") (by decide +kernel)) (fun _ h9 => h9) rfl dX9_exchange_5 ?_
  obtain ⟨q2, h1, h⟩ := Option.bind_eq_some_iff.mp h
  refine kcvw (ws' := (wVC aV aS aH.1 xV2 xV3 xV4 xV5 xV6 ++ (wSC aS aL.1 aR.1 aM.1 ++ (wBK cI aL vL0 vL1 vL2 vL3 ++ (wBK cI aR vR0 vR1 vR2 vR3 ++ (wMP cI aM vM0 vM1 vM2 ++ wHI cI cS aH q2.1 q2.2.1 q2.2.2.1 q2.2.2.2.1 q2.2.2.2.2.1 q2.2.2.2.2.2.1 q2.2.2.2.2.2.2)))))) [13, 14, 15, 16, 17, 18, 19, 20, 21, 22, 23, 24, 25, 26, 27, 28, 29, 30, 31, 32, 33, 34, 35, 36, 37, 38, 39, 40, 41, 42, 43, 44, 45, 46, 47, 48, 49, 50, 51, 52, 53, 54, 55, 56, 57, 58, 59, 60, 61, 62, 63, 64, 65, 66, 67, 68, 69, 70, 71, 72, 73, 74, 1, 2, 3, 4, 5, 6, 7, 8, 9, 10, 11, 12] (va_runV (As := [.ref aS]) (rest := []) ⟨hx, hb, hml, hown, hts⟩ (kX2_record l D cI cC cS aH vH0 vH2 vH3 vH4 vH5 vH6 aS aL vL0 vL1 vL2 vL3 aR vR0 vR1 vR2 vR3 aM vM0 vM1 vM2 s.heap.size h1) (cwV 1 hts gX9_exchange_X2_record rfl rfl rfl (by decide +kernel) ⟨Nat.le_of_ble_eq_true rfl, Nat.le_of_ble_eq_true rfl⟩) (kpreV hK hN hP hD [13, 14, 15, 16, 17, 18, 19, 20, 21, 22, 23, 24, 25, 26, 27, 28, 29, 30, 31, 32, 33, 34, 35, 36, 37, 38, 39, 40, 41, 42, 43, 44, 45, 46, 47, 48, 49, 50, 51, 52, 53, 54, 55, 56, 57, 58, 59, 60, 61, 62, 63, 64, 65, 66, 67, 68, 69, 70, 71, 72, 73, 74, 1, 2, 3, 4, 5, 6, 7, 8, 9, 10, 11, 12] rfl (by decide +kernel) 2 rfl rfl) rfl rfl hl.1 rfl (lv_room (Nat.le_of_ble_eq_true rfl)) dX9_exchange_8 ⟨Nat.le_refl _, Nat.le_refl _⟩) hP hD hS hA rfl (by decide +kernel) rfl [0, 63, 64, 65, 66, 67, 68, 69, 70, 71, 72, 73, 74, 1, 2, 3, 4, 5, 6, 7, 8, 9, 10, 11, 12, 13, 14, 15, 16, 17, 18, 19, 20, 21, 22, 23, 24, 25, 26, 27, 28, 29, 30, 31, 32, 33, 34, 35, 36, 37, 38, 39, 40, 41, 42, 43, 44, 45, 46, 47, 48, 49, 50, 51, 52, 53, 54, 55, 56, 57, 58, 59, 60, 61, 62] (by decide +kernel) rfl (fun H locs hP hD hS => ?_)
  refine lv_aload_n hx hb dX9_exchange_11 rfl (lv_at hl 0 rfl) ?_
  refine va_get (D := D) (ci := 9) (v := .ref aS) (C := RX9) (T := TX9) (N := 7) hx hb hts huX9 hown hK hP 0 rfl rfl 0 (by decide) (hts (.fieldLink RX9 12 "VerseColumns" "state" "LVerseColumns$State;") (by decide +kernel)) (fun _ h9 => h9) rfl dX9_exchange_12 ?_
  refine kcvw (ws' := (wVC aV aS aH.1 xV2 xV3 xV4 xV5 xV6 ++ (wSC aS aR.1 aL.1 aM.1 ++ (wBK cI aL vL0 vL1 vL2 vL3 ++ (wBK cI aR vR0 vR1 vR2 vR3 ++ (wMX cI aM vM0 vM1 vM2 ++ wHI cI cS aH q2.1 q2.2.1 q2.2.2.1 q2.2.2.2.1 q2.2.2.2.2.1 q2.2.2.2.2.2.1 q2.2.2.2.2.2.2)))))) [1, 10] (va_runV (As := []) (rest := []) ⟨hx, hb, hml, hown, hts⟩ (kX7_swapBooks l D cI cC cS aS aL.1 aR.1 aM.1 aM.2.1 aM.2.2 vM2 H.size) (cwV 0 hts gX9_exchange_X7_swapBooks rfl rfl rfl (by decide +kernel) ⟨Nat.le_of_ble_eq_true rfl, Nat.le_of_ble_eq_true rfl⟩) (kpreV hK hN hP hD [1, 10] rfl (by decide) 7 rfl rfl) rfl rfl hl.1 rfl (lv_room (Nat.le_of_ble_eq_true rfl)) dX9_exchange_15 ⟨Nat.le_refl _, Nat.le_refl _⟩) hP hD hS hA rfl (by decide) rfl [0, 1, 0, 0, 0, 0, 0, 0, 0, 0, 2, 0, 0, 0, 0, 0, 0, 0, 0, 0, 0, 0, 0, 0, 0, 0, 0, 0, 0, 0, 0, 0, 0, 0, 0, 0, 0, 0, 0, 0, 0, 0, 0, 0, 0, 0, 0, 0, 0, 0, 0, 0, 0, 0, 0, 0, 0, 0, 0, 0, 0, 0, 0, 0, 0, 0, 0, 0, 0, 0, 0, 0, 0, 0, 0] (by decide +kernel) rfl (fun H locs hP hD hS => ?_)
  refine lv_aload_n hx hb dX9_exchange_18 rfl (lv_at hl 0 rfl) ?_
  refine va_get (D := D) (ci := 9) (v := .ref aS) (C := RX9) (T := TX9) (N := 7) hx hb hts huX9 hown hK hP 0 rfl rfl 0 (by decide) (hts (.fieldLink RX9 12 "VerseColumns" "state" "LVerseColumns$State;") (by decide +kernel)) (fun _ h9 => h9) rfl dX9_exchange_19 ?_
  refine va_getN (D := D) (ci := 7) (v := .ref aM.1) (C := RX7) (T := TX7) (N := 3) hx hb hts huX7 hown hK hP 1 rfl rfl 2 (by decide) (hN.f 11 rfl) (fun _ h9 => h9) rfl dX9_exchange_22 ?_
  obtain ⟨q3, h4, h⟩ := Option.bind_eq_some_iff.mp h
  refine kcir [10, 12, 11] (va_runV (As := []) (rest := []) ⟨hx, hb, hml, hown, hts⟩ (kX1_alikeTotal l D cI cC cS (aM.1, aM.2.2, aM.2.1) vM1 vM0 vM2 H.size h4) (cwV 0 hts gX9_exchange_X1_alikeTotal rfl rfl rfl (by decide +kernel) ⟨Nat.le_of_ble_eq_true rfl, Nat.le_of_ble_eq_true rfl⟩) (kpreV hK hN hP hD [10, 12, 11] rfl (by decide) 1 rfl rfl) rfl rfl hl.1 rfl (lv_room (Nat.le_of_ble_eq_true rfl)) dX9_exchange_25 ⟨Nat.le_refl _, Nat.le_refl _⟩) hP hD hS hA rfl (fun H locs hP hS => ?_)
  obtain rfl := Option.some.inj h
  exact W.iret (v := q3) hx hb hr (fun t ht hW => ⟨⟨_, (), rfl, rfl, by rw [ht]; exact hP, hD⟩, hS.F ht⟩) hS.2.2 dX9_exchange_28
