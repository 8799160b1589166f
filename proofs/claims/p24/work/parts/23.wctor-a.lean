-- constructors (printed by wip/whole/gen/wctor.py)
set_option maxHeartbeats 8000000 in
set_option maxRecDepth 100000 in
theorem kX0_init (l : Launch) (D : va_G) (cI cC cS : ClassId) (q : Nat) (sz : Nat) : kMc l yX0_init wsX0_init ({ frames := 1, cells := 3, slots := 180, locals := 12 } : Room) D (kTy cI cC cS) [.ref q] [(q, .inr (0, [.null, .null, .null, .int 0]))] sz 3 180 (fun u : Nat × Nat × Nat => wBK cI (q, u) z0 z0 z0 0) := by
  refine Met.ofW (cc := cX0_init) (maxL := 1) (ret := none) (by decide) rfl ?_
  intro p e s m args below meth c s₁ B hml hv
  obtain ⟨rfl, hsz, hP, hK, hD0, hN⟩ := hv
  have hx := B.exec
  have hb := B.bytes
  have hr := B.returns
  have hts := atoms_spec (ws := wsX0_init) B.pre
  have hown : s.vm.findClass RX0 = some m.cls := findClass_of_methodNamed B.named
  have hlocks := B.notSynchronized
  have hin : meth.name = "<init>" := (name_of_methodNamed B.named B.method).1
  subst hsz
  have hD := hD0.self (sz := s.heap.size)
  generalize hAe : va_A ([(q, .inr (0, [.null, .null, .null, .int 0]))]) s.heap.size = A at hD ⊢
  have hA : ∀ q : Nat, s.heap.size ≤ q → A q := fun q h => by rw [← hAe]; exact Or.inr h
  have hS : va_S A s.heap s.heap [] := va_S.rf
  have hl := lv_entry ([.ref q]) (n := 1) (Nat.le_of_ble_eq_true rfl)
  rw [lg_entry_eq]
  generalize (lg_sl ([.ref q]) ++ List.replicate (1 - (lg_sl ([.ref q])).length) Slot.unset).toArray = ls at hl ⊢
  have hl : lv_has ls 1 [(0, .ref q)] := hl
  refine lv_aload_n hx hb dX0_init_0 rfl (lv_at hl 0 rfl) ?_
  refine W.objInit hx hb hown (hts (.methodLink RX0 3 objectInit) (by decide +kernel)) (hts (.instanceMethod objectInit) (by decide +kernel)) (hts (.code objectInit ⟨#[0xb1]⟩ 1 none) (by decide +kernel)) rfl (by rw [hml]; exact hl.1) rfl dX0_init_1 (Nat.le_of_ble_eq_true rfl) (Nat.le_of_ble_eq_true rfl) ?_
  refine W.eq (g2 := F0 m 4 ls []) rfl ?_
  refine lv_aload_n hx hb dX0_init_4 rfl (lv_at hl 0 rfl) ?_
  refine lv_bipush (v := (60 : Int32)) hx hb dX0_init_5 (by decide) ?_
  refine va_newa (atype := .int) hx hb (hts (.arrayClass .int) (by decide +kernel)) rfl hK hP hD hS hA (a0 := (60, .inl z0)) (fun _ => rfl) (by decide) (by decide +kernel) (Nat.le_of_ble_eq_true rfl) (Nat.le_of_ble_eq_true rfl) (Nat.le_of_ble_eq_true rfl) dX0_init_7 (fun q1 cA H hK1 hP hD hS => ?_)
  have hc := kSameI hK hK1
  subst hc
  clear hK1
  have hP : va_P D vwCl ([(q, .inr (0, [.null, .null, .null, .int 0]))] ++ [(q1, .inl (cI, 60, .inl z0))]) H := hP
  have hD : va_D A ([(q, .inr (0, [.null, .null, .null, .int 0]))] ++ [(q1, .inl (cI, 60, .inl z0))]) := hD
  refine W.widen (k := 1) (n := 60) (Nat.le_of_ble_eq_true rfl) (Nat.le_of_ble_eq_true rfl) ?_
  refine va_putF (D := D) (ci := 0) (v := .ref q1) (ty := .array .int) (C := RX0) (T := TX0) (N := 4) hx hb hts (by decide +kernel) tyX0 tyX0_ok nmX0 hown hK hP hD hS 0 rfl rfl 0 (by decide) (hts (.fieldLink RX0 9 "VerseColumns$Book" "chapters" "[I") (by decide +kernel)) (fun _ h9 => h9) rfl hin rfl (by decide +kernel) rfl rfl (Nat.le_of_ble_eq_true rfl) dX0_init_9 (fun H locs hP hD hS => ?_)
  have hP : va_P D vwCl ([(q, .inr (0, [.ref q1, .null, .null, .int 0]))] ++ [(q1, .inl (cI, 60, .inl z0))]) H := hP
  have hD : va_D A ([(q, .inr (0, [.ref q1, .null, .null, .int 0]))] ++ [(q1, .inl (cI, 60, .inl z0))]) := hD
  refine lv_aload_n hx hb dX0_init_12 rfl (lv_at hl 0 rfl) ?_
  refine lv_bipush (v := (60 : Int32)) hx hb dX0_init_13 (by decide) ?_
  refine va_newa (atype := .int) hx hb (hts (.arrayClass .int) (by decide +kernel)) rfl hK hP hD hS hA (a0 := (60, .inl z0)) (fun _ => rfl) (by decide) (by decide +kernel) (Nat.le_of_ble_eq_true rfl) (Nat.le_of_ble_eq_true rfl) (Nat.le_of_ble_eq_true rfl) dX0_init_15 (fun q2 cA H hK1 hP hD hS => ?_)
  have hc := kSameI hK hK1
  subst hc
  clear hK1
  have hP : va_P D vwCl ([(q, .inr (0, [.ref q1, .null, .null, .int 0]))] ++ ([(q1, .inl (cI, 60, .inl z0))] ++ [(q2, .inl (cI, 60, .inl z0))])) H := hP
  have hD : va_D A ([(q, .inr (0, [.ref q1, .null, .null, .int 0]))] ++ ([(q1, .inl (cI, 60, .inl z0))] ++ [(q2, .inl (cI, 60, .inl z0))])) := hD
  refine W.widen (k := 2) (n := 120) (Nat.le_of_ble_eq_true rfl) (Nat.le_of_ble_eq_true rfl) ?_
  refine va_putF (D := D) (ci := 0) (v := .ref q2) (ty := .array .int) (C := RX0) (T := TX0) (N := 4) hx hb hts (by decide +kernel) tyX0 tyX0_ok nmX0 hown hK hP hD hS 0 rfl rfl 1 (by decide) (hts (.fieldLink RX0 15 "VerseColumns$Book" "letters" "[I") (by decide +kernel)) (fun _ h9 => h9) rfl hin rfl (by decide +kernel) rfl rfl (Nat.le_of_ble_eq_true rfl) dX0_init_17 (fun H locs hP hD hS => ?_)
  have hP : va_P D vwCl ([(q, .inr (0, [.ref q1, .ref q2, .null, .int 0]))] ++ ([(q1, .inl (cI, 60, .inl z0))] ++ [(q2, .inl (cI, 60, .inl z0))])) H := hP
  have hD : va_D A ([(q, .inr (0, [.ref q1, .ref q2, .null, .int 0]))] ++ ([(q1, .inl (cI, 60, .inl z0))] ++ [(q2, .inl (cI, 60, .inl z0))])) := hD
  refine lv_aload_n hx hb dX0_init_20 rfl (lv_at hl 0 rfl) ?_
  refine lv_bipush (v := (60 : Int32)) hx hb dX0_init_21 (by decide) ?_
  refine va_newa (atype := .int) hx hb (hts (.arrayClass .int) (by decide +kernel)) rfl hK hP hD hS hA (a0 := (60, .inl z0)) (fun _ => rfl) (by decide) (by decide +kernel) (Nat.le_of_ble_eq_true rfl) (Nat.le_of_ble_eq_true rfl) (Nat.le_of_ble_eq_true rfl) dX0_init_23 (fun q3 cA H hK1 hP hD hS => ?_)
  have hc := kSameI hK hK1
  subst hc
  clear hK1
  have hP : va_P D vwCl ([(q, .inr (0, [.ref q1, .ref q2, .null, .int 0]))] ++ ([(q1, .inl (cI, 60, .inl z0))] ++ ([(q2, .inl (cI, 60, .inl z0))] ++ [(q3, .inl (cI, 60, .inl z0))]))) H := hP
  have hD : va_D A ([(q, .inr (0, [.ref q1, .ref q2, .null, .int 0]))] ++ ([(q1, .inl (cI, 60, .inl z0))] ++ ([(q2, .inl (cI, 60, .inl z0))] ++ [(q3, .inl (cI, 60, .inl z0))]))) := hD
  refine W.widen (k := 3) (n := 180) (Nat.le_of_ble_eq_true rfl) (Nat.le_of_ble_eq_true rfl) ?_
  refine va_putF (D := D) (ci := 0) (v := .ref q3) (ty := .array .int) (C := RX0) (T := TX0) (N := 4) hx hb hts (by decide +kernel) tyX0 tyX0_ok nmX0 hown hK hP hD hS 0 rfl rfl 2 (by decide) (hts (.fieldLink RX0 18 "VerseColumns$Book" "notes" "[I") (by decide +kernel)) (fun _ h9 => h9) rfl hin rfl (by decide +kernel) rfl rfl (Nat.le_of_ble_eq_true rfl) dX0_init_25 (fun H locs hP hD hS => ?_)
  have hP : va_P D vwCl ([(q, .inr (0, [.ref q1, .ref q2, .ref q3, .int 0]))] ++ ([(q1, .inl (cI, 60, .inl z0))] ++ ([(q2, .inl (cI, 60, .inl z0))] ++ [(q3, .inl (cI, 60, .inl z0))]))) H := hP
  have hD : va_D A ([(q, .inr (0, [.ref q1, .ref q2, .ref q3, .int 0]))] ++ ([(q1, .inl (cI, 60, .inl z0))] ++ ([(q2, .inl (cI, 60, .inl z0))] ++ [(q3, .inl (cI, 60, .inl z0))]))) := hD
  exact W.vret hx hb hr (fun t ht hW => ⟨⟨(), rfl, trivial, (q1, q2, q3), by rw [ht]; exact hP, hD⟩, hS.F ht⟩) hS.2.2 dX0_init_28
set_option maxHeartbeats 8000000 in
set_option maxRecDepth 100000 in
theorem kX1_init (l : Launch) (D : va_G) (cI cC cS : ClassId) (q : Nat) (sz : Nat) : kMc l yX1_init wsX1_init ({ frames := 1, cells := 2, slots := 240, locals := 12 } : Room) D (kTy cI cC cS) [.ref q] [(q, .inr (1, [.null, .null, .int 0]))] sz 2 240 (fun u : Nat × Nat => wMP cI (q, u) z0 z0 0) := by
  refine Met.ofW (cc := cX1_init) (maxL := 1) (ret := none) (by decide) rfl ?_
  intro p e s m args below meth c s₁ B hml hv
  obtain ⟨rfl, hsz, hP, hK, hD0, hN⟩ := hv
  have hx := B.exec
  have hb := B.bytes
  have hr := B.returns
  have hts := atoms_spec (ws := wsX1_init) B.pre
  have hown : s.vm.findClass RX1 = some m.cls := findClass_of_methodNamed B.named
  have hlocks := B.notSynchronized
  have hin : meth.name = "<init>" := (name_of_methodNamed B.named B.method).1
  subst hsz
  have hD := hD0.self (sz := s.heap.size)
  generalize hAe : va_A ([(q, .inr (1, [.null, .null, .int 0]))]) s.heap.size = A at hD ⊢
  have hA : ∀ q : Nat, s.heap.size ≤ q → A q := fun q h => by rw [← hAe]; exact Or.inr h
  have hS : va_S A s.heap s.heap [] := va_S.rf
  have hl := lv_entry ([.ref q]) (n := 1) (Nat.le_of_ble_eq_true rfl)
  rw [lg_entry_eq]
  generalize (lg_sl ([.ref q]) ++ List.replicate (1 - (lg_sl ([.ref q])).length) Slot.unset).toArray = ls at hl ⊢
  have hl : lv_has ls 1 [(0, .ref q)] := hl
  refine lv_aload_n hx hb dX1_init_0 rfl (lv_at hl 0 rfl) ?_
  refine W.objInit hx hb hown (hts (.methodLink RX1 3 objectInit) (by decide +kernel)) (hts (.instanceMethod objectInit) (by decide +kernel)) (hts (.code objectInit ⟨#[0xb1]⟩ 1 none) (by decide +kernel)) rfl (by rw [hml]; exact hl.1) rfl dX1_init_1 (Nat.le_of_ble_eq_true rfl) (Nat.le_of_ble_eq_true rfl) ?_
  refine W.eq (g2 := F0 m 4 ls []) rfl ?_
  refine lv_aload_n hx hb dX1_init_4 rfl (lv_at hl 0 rfl) ?_
  refine lv_bipush (v := (120 : Int32)) hx hb dX1_init_5 (by decide) ?_
  refine va_newa (atype := .int) hx hb (hts (.arrayClass .int) (by decide +kernel)) rfl hK hP hD hS hA (a0 := (120, .inl z0)) (fun _ => rfl) (by decide) (by decide +kernel) (Nat.le_of_ble_eq_true rfl) (Nat.le_of_ble_eq_true rfl) (Nat.le_of_ble_eq_true rfl) dX1_init_7 (fun q1 cA H hK1 hP hD hS => ?_)
  have hc := kSameI hK hK1
  subst hc
  clear hK1
  have hP : va_P D vwCl ([(q, .inr (1, [.null, .null, .int 0]))] ++ [(q1, .inl (cI, 120, .inl z0))]) H := hP
  have hD : va_D A ([(q, .inr (1, [.null, .null, .int 0]))] ++ [(q1, .inl (cI, 120, .inl z0))]) := hD
  refine W.widen (k := 1) (n := 120) (Nat.le_of_ble_eq_true rfl) (Nat.le_of_ble_eq_true rfl) ?_
  refine va_put (D := D) (ci := 1) (v := .ref q1) (ty := .array .int) (C := RX1) (T := TX1) (N := 3) hx hb hts (by decide +kernel) tyX1 tyX1_ok nmX1 hown hK hP hD hS 0 rfl rfl 0 (by decide) (hts (.fieldLink RX1 9 "VerseColumns$GroupMap" "left" "[I") (by decide +kernel)) (fun _ h9 => h9) rfl (by decide +kernel) rfl rfl (Nat.le_of_ble_eq_true rfl) dX1_init_9 (fun H locs hP hD hS => ?_)
  have hP : va_P D vwCl ([(q, .inr (1, [.ref q1, .null, .int 0]))] ++ [(q1, .inl (cI, 120, .inl z0))]) H := hP
  have hD : va_D A ([(q, .inr (1, [.ref q1, .null, .int 0]))] ++ [(q1, .inl (cI, 120, .inl z0))]) := hD
  refine lv_aload_n hx hb dX1_init_12 rfl (lv_at hl 0 rfl) ?_
  refine lv_bipush (v := (120 : Int32)) hx hb dX1_init_13 (by decide) ?_
  refine va_newa (atype := .int) hx hb (hts (.arrayClass .int) (by decide +kernel)) rfl hK hP hD hS hA (a0 := (120, .inl z0)) (fun _ => rfl) (by decide) (by decide +kernel) (Nat.le_of_ble_eq_true rfl) (Nat.le_of_ble_eq_true rfl) (Nat.le_of_ble_eq_true rfl) dX1_init_15 (fun q2 cA H hK1 hP hD hS => ?_)
  have hc := kSameI hK hK1
  subst hc
  clear hK1
  have hP : va_P D vwCl ([(q, .inr (1, [.ref q1, .null, .int 0]))] ++ ([(q1, .inl (cI, 120, .inl z0))] ++ [(q2, .inl (cI, 120, .inl z0))])) H := hP
  have hD : va_D A ([(q, .inr (1, [.ref q1, .null, .int 0]))] ++ ([(q1, .inl (cI, 120, .inl z0))] ++ [(q2, .inl (cI, 120, .inl z0))])) := hD
  refine W.widen (k := 2) (n := 240) (Nat.le_of_ble_eq_true rfl) (Nat.le_of_ble_eq_true rfl) ?_
  refine va_put (D := D) (ci := 1) (v := .ref q2) (ty := .array .int) (C := RX1) (T := TX1) (N := 3) hx hb hts (by decide +kernel) tyX1 tyX1_ok nmX1 hown hK hP hD hS 0 rfl rfl 1 (by decide) (hts (.fieldLink RX1 15 "VerseColumns$GroupMap" "right" "[I") (by decide +kernel)) (fun _ h9 => h9) rfl (by decide +kernel) rfl rfl (Nat.le_of_ble_eq_true rfl) dX1_init_17 (fun H locs hP hD hS => ?_)
  have hP : va_P D vwCl ([(q, .inr (1, [.ref q1, .ref q2, .int 0]))] ++ ([(q1, .inl (cI, 120, .inl z0))] ++ [(q2, .inl (cI, 120, .inl z0))])) H := hP
  have hD : va_D A ([(q, .inr (1, [.ref q1, .ref q2, .int 0]))] ++ ([(q1, .inl (cI, 120, .inl z0))] ++ [(q2, .inl (cI, 120, .inl z0))])) := hD
  exact W.vret hx hb hr (fun t ht hW => ⟨⟨(), rfl, trivial, (q1, q2), by rw [ht]; exact hP, hD⟩, hS.F ht⟩) hS.2.2 dX1_init_20
set_option maxHeartbeats 8000000 in
set_option maxRecDepth 100000 in
theorem kX7_init (l : Launch) (D : va_G) (cI cC cS : ClassId) (q : Nat) (sz : Nat) : kMc l yX7_init wsX7_init ({ frames := 2, cells := 11, slots := 611, locals := 32 } : Room) D (kTy cI cC cS) [.ref q] [(q, .inr (7, [.null, .null, .null]))] sz 11 611 (fun u : (Nat × Nat × Nat × Nat) × (Nat × Nat × Nat × Nat) × (Nat × Nat × Nat) => wST cI (q, u) zST) := by
  refine Met.ofW (cc := cX7_init) (maxL := 1) (ret := none) (by decide) rfl ?_
  intro p e s m args below meth c s₁ B hml hv
  obtain ⟨rfl, hsz, hP, hK, hD0, hN⟩ := hv
  have hx := B.exec
  have hb := B.bytes
  have hr := B.returns
  have hts := atoms_spec (ws := wsX7_init) B.pre
  have hown : s.vm.findClass RX7 = some m.cls := findClass_of_methodNamed B.named
  have hlocks := B.notSynchronized
  have hin : meth.name = "<init>" := (name_of_methodNamed B.named B.method).1
  subst hsz
  have hD := hD0.self (sz := s.heap.size)
  generalize hAe : va_A ([(q, .inr (7, [.null, .null, .null]))]) s.heap.size = A at hD ⊢
  have hA : ∀ q : Nat, s.heap.size ≤ q → A q := fun q h => by rw [← hAe]; exact Or.inr h
  have hS : va_S A s.heap s.heap [] := va_S.rf
  have hl := lv_entry ([.ref q]) (n := 1) (Nat.le_of_ble_eq_true rfl)
  rw [lg_entry_eq]
  generalize (lg_sl ([.ref q]) ++ List.replicate (1 - (lg_sl ([.ref q])).length) Slot.unset).toArray = ls at hl ⊢
  have hl : lv_has ls 1 [(0, .ref q)] := hl
  refine lv_aload_n hx hb dX7_init_0 rfl (lv_at hl 0 rfl) ?_
  refine W.objInit hx hb hown (hts (.methodLink RX7 3 objectInit) (by decide +kernel)) (hts (.instanceMethod objectInit) (by decide +kernel)) (hts (.code objectInit ⟨#[0xb1]⟩ 1 none) (by decide +kernel)) rfl (by rw [hml]; exact hl.1) rfl dX7_init_1 (Nat.le_of_ble_eq_true rfl) (Nat.le_of_ble_eq_true rfl) ?_
  refine W.eq (g2 := F0 m 4 ls []) rfl ?_
  refine lv_aload_n hx hb dX7_init_4 rfl (lv_at hl 0 rfl) ?_
  refine va_new (ci := 0) (fs := [.null, .null, .null, .int 0]) (C := RX0) (T := TX0) (N := 4) hx hb hts (by decide +kernel) tyX0 tyX0_ok hown (hts (.classLink RX7 9 RX0) (by decide +kernel)) (hts (.instantiable RX0 4) (by decide +kernel)) (hts (.initialized RX0) (by decide +kernel)) hK hP hD hS hA rfl (fun j hj => match j, hj with | 0, _ => rfl | 1, _ => rfl | 2, _ => rfl | 3, _ => rfl) (Nat.le_of_ble_eq_true rfl) (Nat.le_of_ble_eq_true rfl) dX7_init_5 (fun q1 H hP hD hS => ?_)
  have hP : va_P D vwCl ([(q, .inr (7, [.null, .null, .null]))] ++ [(q1, .inr (0, [.null, .null, .null, .int 0]))]) H := hP
  have hD : va_D A ([(q, .inr (7, [.null, .null, .null]))] ++ [(q1, .inr (0, [.null, .null, .null, .int 0]))]) := hD
  refine W.widen (k := 1) (n := 4) (Nat.le_of_ble_eq_true rfl) (Nat.le_of_ble_eq_true rfl) ?_
  refine lv_dup hx hb dX7_init_8 rfl ?_
  have hP : va_P D vwCl (([(q, .inr (7, [.null, .null, .null]))]) ++ [(q1, .inr (0, [.null, .null, .null, .int 0]))]) H := hP
  have hD : va_D A (([(q, .inr (7, [.null, .null, .null]))]) ++ [(q1, .inr (0, [.null, .null, .null, .int 0]))]) := hD
  refine kcn (wsp := ([(q, .inr (7, [.null, .null, .null]))])) (va_runIN (As := []) (rest := [.ref q1, .ref q]) ⟨hx, hb, hml, hown, hts⟩ (kX0_init l D cI cC cS q1 H.size) ⟨va_cnB 0 hts gX7_init_X0_init_n11 rfl rfl rfl (hN.m 1 rfl) (hts (.initialized RX0) (by decide +kernel)) (by decide +kernel) ⟨Nat.le_of_ble_eq_true rfl, Nat.le_of_ble_eq_true rfl⟩, rfl, hts (.instanceMethod yX0_init) (by decide +kernel)⟩ (kpre hK hN hP hD [1] rfl (by decide +kernel)) rfl rfl hl.1 rfl (lv_room (Nat.le_of_ble_eq_true rfl)) dX7_init_9 ⟨Nat.le_of_ble_eq_true rfl, Nat.le_of_ble_eq_true rfl⟩) hP hD hS hA (fun u2 H locs hP hD hS => ?_)
  have hP : va_P D vwCl ([(q, .inr (7, [.null, .null, .null]))] ++ wBK cI (q1, u2) z0 z0 z0 0) H := hP
  have hD : va_D A ([(q, .inr (7, [.null, .null, .null]))] ++ wBK cI (q1, u2) z0 z0 z0 0) := hD
  refine W.widen (k := 4) (n := 184) (Nat.le_of_ble_eq_true rfl) (Nat.le_of_ble_eq_true rfl) ?_
  refine va_put (D := D) (ci := 7) (v := .ref q1) (ty := .object "VerseColumns$Book") (C := RX7) (T := TX7) (N := 3) hx hb hts (by decide +kernel) tyX7 tyX7_ok nmX7 hown hK hP hD hS 0 rfl rfl 0 (by decide) (hts (.fieldLink RX7 12 "VerseColumns$State" "left" "LVerseColumns$Book;") (by decide +kernel)) (fun _ h9 => h9) rfl (by decide +kernel) rfl rfl (Nat.le_of_ble_eq_true rfl) dX7_init_12 (fun H locs hP hD hS => ?_)
  have hP : va_P D vwCl ([(q, .inr (7, [.ref q1, .null, .null]))] ++ wBK cI (q1, u2) z0 z0 z0 0) H := hP
  have hD : va_D A ([(q, .inr (7, [.ref q1, .null, .null]))] ++ wBK cI (q1, u2) z0 z0 z0 0) := hD
  refine lv_aload_n hx hb dX7_init_15 rfl (lv_at hl 0 rfl) ?_
  refine va_new (ci := 0) (fs := [.null, .null, .null, .int 0]) (C := RX0) (T := TX0) (N := 4) hx hb hts (by decide +kernel) tyX0 tyX0_ok hown (hts (.classLink RX7 9 RX0) (by decide +kernel)) (hts (.instantiable RX0 4) (by decide +kernel)) (hts (.initialized RX0) (by decide +kernel)) hK hP hD hS hA rfl (fun j hj => match j, hj with | 0, _ => rfl | 1, _ => rfl | 2, _ => rfl | 3, _ => rfl) (Nat.le_of_ble_eq_true rfl) (Nat.le_of_ble_eq_true rfl) dX7_init_16 (fun q3 H hP hD hS => ?_)
  have hP : va_P D vwCl ([(q, .inr (7, [.ref q1, .null, .null]))] ++ (wBK cI (q1, u2) z0 z0 z0 0 ++ [(q3, .inr (0, [.null, .null, .null, .int 0]))])) H := hP
  have hD : va_D A ([(q, .inr (7, [.ref q1, .null, .null]))] ++ (wBK cI (q1, u2) z0 z0 z0 0 ++ [(q3, .inr (0, [.null, .null, .null, .int 0]))])) := hD
  refine W.widen (k := 5) (n := 188) (Nat.le_of_ble_eq_true rfl) (Nat.le_of_ble_eq_true rfl) ?_
  refine lv_dup hx hb dX7_init_19 rfl ?_
  have hP : va_P D vwCl (([(q, .inr (7, [.ref q1, .null, .null]))] ++ wBK cI (q1, u2) z0 z0 z0 0) ++ [(q3, .inr (0, [.null, .null, .null, .int 0]))]) H := hP
  have hD : va_D A (([(q, .inr (7, [.ref q1, .null, .null]))] ++ wBK cI (q1, u2) z0 z0 z0 0) ++ [(q3, .inr (0, [.null, .null, .null, .int 0]))]) := hD
  refine kcn (wsp := ([(q, .inr (7, [.ref q1, .null, .null]))] ++ wBK cI (q1, u2) z0 z0 z0 0)) (va_runIN (As := []) (rest := [.ref q3, .ref q]) ⟨hx, hb, hml, hown, hts⟩ (kX0_init l D cI cC cS q3 H.size) ⟨va_cnB 0 hts gX7_init_X0_init_n11 rfl rfl rfl (hN.m 1 rfl) (hts (.initialized RX0) (by decide +kernel)) (by decide +kernel) ⟨Nat.le_of_ble_eq_true rfl, Nat.le_of_ble_eq_true rfl⟩, rfl, hts (.instanceMethod yX0_init) (by decide +kernel)⟩ (kpre hK hN hP hD [5] rfl (by decide +kernel)) rfl rfl hl.1 rfl (lv_room (Nat.le_of_ble_eq_true rfl)) dX7_init_20 ⟨Nat.le_of_ble_eq_true rfl, Nat.le_of_ble_eq_true rfl⟩) hP hD hS hA (fun u4 H locs hP hD hS => ?_)
  have hP : va_P D vwCl ([(q, .inr (7, [.ref q1, .null, .null]))] ++ (wBK cI (q1, u2) z0 z0 z0 0 ++ wBK cI (q3, u4) z0 z0 z0 0)) H := hP
  have hD : va_D A ([(q, .inr (7, [.ref q1, .null, .null]))] ++ (wBK cI (q1, u2) z0 z0 z0 0 ++ wBK cI (q3, u4) z0 z0 z0 0)) := hD
  refine W.widen (k := 8) (n := 368) (Nat.le_of_ble_eq_true rfl) (Nat.le_of_ble_eq_true rfl) ?_
  refine va_put (D := D) (ci := 7) (v := .ref q3) (ty := .object "VerseColumns$Book") (C := RX7) (T := TX7) (N := 3) hx hb hts (by decide +kernel) tyX7 tyX7_ok nmX7 hown hK hP hD hS 0 rfl rfl 1 (by decide) (hts (.fieldLink RX7 18 "VerseColumns$State" "right" "LVerseColumns$Book;") (by decide +kernel)) (fun _ h9 => h9) rfl (by decide +kernel) rfl rfl (Nat.le_of_ble_eq_true rfl) dX7_init_23 (fun H locs hP hD hS => ?_)
  have hP : va_P D vwCl ([(q, .inr (7, [.ref q1, .ref q3, .null]))] ++ (wBK cI (q1, u2) z0 z0 z0 0 ++ wBK cI (q3, u4) z0 z0 z0 0)) H := hP
  have hD : va_D A ([(q, .inr (7, [.ref q1, .ref q3, .null]))] ++ (wBK cI (q1, u2) z0 z0 z0 0 ++ wBK cI (q3, u4) z0 z0 z0 0)) := hD
  refine lv_aload_n hx hb dX7_init_26 rfl (lv_at hl 0 rfl) ?_
  refine va_new (ci := 1) (fs := [.null, .null, .int 0]) (C := RX1) (T := TX1) (N := 3) hx hb hts (by decide +kernel) tyX1 tyX1_ok hown (hts (.classLink RX7 21 RX1) (by decide +kernel)) (hts (.instantiable RX1 3) (by decide +kernel)) (hts (.initialized RX1) (by decide +kernel)) hK hP hD hS hA rfl (fun j hj => match j, hj with | 0, _ => rfl | 1, _ => rfl | 2, _ => rfl) (Nat.le_of_ble_eq_true rfl) (Nat.le_of_ble_eq_true rfl) dX7_init_27 (fun q5 H hP hD hS => ?_)
  have hP : va_P D vwCl ([(q, .inr (7, [.ref q1, .ref q3, .null]))] ++ (wBK cI (q1, u2) z0 z0 z0 0 ++ (wBK cI (q3, u4) z0 z0 z0 0 ++ [(q5, .inr (1, [.null, .null, .int 0]))]))) H := hP
  have hD : va_D A ([(q, .inr (7, [.ref q1, .ref q3, .null]))] ++ (wBK cI (q1, u2) z0 z0 z0 0 ++ (wBK cI (q3, u4) z0 z0 z0 0 ++ [(q5, .inr (1, [.null, .null, .int 0]))]))) := hD
  refine W.widen (k := 9) (n := 371) (Nat.le_of_ble_eq_true rfl) (Nat.le_of_ble_eq_true rfl) ?_
  refine lv_dup hx hb dX7_init_30 rfl ?_
  have hP : va_P D vwCl (([(q, .inr (7, [.ref q1, .ref q3, .null]))] ++ (wBK cI (q1, u2) z0 z0 z0 0 ++ wBK cI (q3, u4) z0 z0 z0 0)) ++ [(q5, .inr (1, [.null, .null, .int 0]))]) H := hP
  have hD : va_D A (([(q, .inr (7, [.ref q1, .ref q3, .null]))] ++ (wBK cI (q1, u2) z0 z0 z0 0 ++ wBK cI (q3, u4) z0 z0 z0 0)) ++ [(q5, .inr (1, [.null, .null, .int 0]))]) := hD
  refine kcn (wsp := ([(q, .inr (7, [.ref q1, .ref q3, .null]))] ++ (wBK cI (q1, u2) z0 z0 z0 0 ++ wBK cI (q3, u4) z0 z0 z0 0))) (va_runIN (As := []) (rest := [.ref q5, .ref q]) ⟨hx, hb, hml, hown, hts⟩ (kX1_init l D cI cC cS q5 H.size) ⟨va_cnB 0 hts gX7_init_X1_init_n23 rfl rfl rfl (hN.m 2 rfl) (hts (.initialized RX1) (by decide +kernel)) (by decide +kernel) ⟨Nat.le_of_ble_eq_true rfl, Nat.le_of_ble_eq_true rfl⟩, rfl, hts (.instanceMethod yX1_init) (by decide +kernel)⟩ (kpre hK hN hP hD [9] rfl (by decide +kernel)) rfl rfl hl.1 rfl (lv_room (Nat.le_of_ble_eq_true rfl)) dX7_init_31 ⟨Nat.le_of_ble_eq_true rfl, Nat.le_of_ble_eq_true rfl⟩) hP hD hS hA (fun u6 H locs hP hD hS => ?_)
  have hP : va_P D vwCl ([(q, .inr (7, [.ref q1, .ref q3, .null]))] ++ (wBK cI (q1, u2) z0 z0 z0 0 ++ (wBK cI (q3, u4) z0 z0 z0 0 ++ wMP cI (q5, u6) z0 z0 0))) H := hP
  have hD : va_D A ([(q, .inr (7, [.ref q1, .ref q3, .null]))] ++ (wBK cI (q1, u2) z0 z0 z0 0 ++ (wBK cI (q3, u4) z0 z0 z0 0 ++ wMP cI (q5, u6) z0 z0 0))) := hD
  refine W.widen (k := 11) (n := 611) (Nat.le_of_ble_eq_true rfl) (Nat.le_of_ble_eq_true rfl) ?_
  refine va_putF (D := D) (ci := 7) (v := .ref q5) (ty := .object "VerseColumns$GroupMap") (C := RX7) (T := TX7) (N := 3) hx hb hts (by decide +kernel) tyX7 tyX7_ok nmX7 hown hK hP hD hS 0 rfl rfl 2 (by decide) (hts (.fieldLink RX7 24 "VerseColumns$State" "map" "LVerseColumns$GroupMap;") (by decide +kernel)) (fun _ h9 => h9) rfl hin rfl (by decide +kernel) rfl rfl (Nat.le_of_ble_eq_true rfl) dX7_init_34 (fun H locs hP hD hS => ?_)
  have hP : va_P D vwCl ([(q, .inr (7, [.ref q1, .ref q3, .ref q5]))] ++ (wBK cI (q1, u2) z0 z0 z0 0 ++ (wBK cI (q3, u4) z0 z0 z0 0 ++ wMP cI (q5, u6) z0 z0 0))) H := hP
  have hD : va_D A ([(q, .inr (7, [.ref q1, .ref q3, .ref q5]))] ++ (wBK cI (q1, u2) z0 z0 z0 0 ++ (wBK cI (q3, u4) z0 z0 z0 0 ++ wMP cI (q5, u6) z0 z0 0))) := hD
  exact W.vret hx hb hr (fun t ht hW => ⟨⟨(), rfl, trivial, ((q1, u2), (q3, u4), (q5, u6)), by rw [ht]; exact hP, hD⟩, hS.F ht⟩) hS.2.2 dX7_init_37
set_option maxHeartbeats 8000000 in
set_option maxRecDepth 100000 in
theorem kX8_init (l : Launch) (D : va_G) (cI cC cS : ClassId) (q : Nat) (sz : Nat) : kMc l yX8_init wsX8_init ({ frames := 1, cells := 1, slots := 80, locals := 12 } : Room) D (kTy cI cC cS) [.ref q] [(q, .inr (8, [.null, .int 0, .int 0, .int 0, .int 0, .int 0]))] sz 1 80 (fun u : Nat => wTX cC (q, u) z0 0 0 0 0 0) := by
  refine Met.ofW (cc := cX8_init) (maxL := 1) (ret := none) (by decide) rfl ?_
  intro p e s m args below meth c s₁ B hml hv
  obtain ⟨rfl, hsz, hP, hK, hD0, hN⟩ := hv
  have hx := B.exec
  have hb := B.bytes
  have hr := B.returns
  have hts := atoms_spec (ws := wsX8_init) B.pre
  have hown : s.vm.findClass RX8 = some m.cls := findClass_of_methodNamed B.named
  have hlocks := B.notSynchronized
  have hin : meth.name = "<init>" := (name_of_methodNamed B.named B.method).1
  subst hsz
  have hD := hD0.self (sz := s.heap.size)
  generalize hAe : va_A ([(q, .inr (8, [.null, .int 0, .int 0, .int 0, .int 0, .int 0]))]) s.heap.size = A at hD ⊢
  have hA : ∀ q : Nat, s.heap.size ≤ q → A q := fun q h => by rw [← hAe]; exact Or.inr h
  have hS : va_S A s.heap s.heap [] := va_S.rf
  have hl := lv_entry ([.ref q]) (n := 1) (Nat.le_of_ble_eq_true rfl)
  rw [lg_entry_eq]
  generalize (lg_sl ([.ref q]) ++ List.replicate (1 - (lg_sl ([.ref q])).length) Slot.unset).toArray = ls at hl ⊢
  have hl : lv_has ls 1 [(0, .ref q)] := hl
  refine lv_aload_n hx hb dX8_init_0 rfl (lv_at hl 0 rfl) ?_
  refine W.objInit hx hb hown (hts (.methodLink RX8 3 objectInit) (by decide +kernel)) (hts (.instanceMethod objectInit) (by decide +kernel)) (hts (.code objectInit ⟨#[0xb1]⟩ 1 none) (by decide +kernel)) rfl (by rw [hml]; exact hl.1) rfl dX8_init_1 (Nat.le_of_ble_eq_true rfl) (Nat.le_of_ble_eq_true rfl) ?_
  refine W.eq (g2 := F0 m 4 ls []) rfl ?_
  refine lv_aload_n hx hb dX8_init_4 rfl (lv_at hl 0 rfl) ?_
  refine lv_bipush (v := (80 : Int32)) hx hb dX8_init_5 (by decide) ?_
  refine va_newa (atype := .char) hx hb (hts (.arrayClass .char) (by decide +kernel)) rfl hK hP hD hS hA (a0 := (80, .inl z0)) (fun _ => rfl) (by decide) (by decide +kernel) (Nat.le_of_ble_eq_true rfl) (Nat.le_of_ble_eq_true rfl) (Nat.le_of_ble_eq_true rfl) dX8_init_7 (fun q1 cA H hK1 hP hD hS => ?_)
  have hc := kSameC hK hK1
  subst hc
  clear hK1
  have hP : va_P D vwCl ([(q, .inr (8, [.null, .int 0, .int 0, .int 0, .int 0, .int 0]))] ++ [(q1, .inl (cC, 80, .inl z0))]) H := hP
  have hD : va_D A ([(q, .inr (8, [.null, .int 0, .int 0, .int 0, .int 0, .int 0]))] ++ [(q1, .inl (cC, 80, .inl z0))]) := hD
  refine W.widen (k := 1) (n := 80) (Nat.le_of_ble_eq_true rfl) (Nat.le_of_ble_eq_true rfl) ?_
  refine va_putF (D := D) (ci := 8) (v := .ref q1) (ty := .array .char) (C := RX8) (T := TX8) (N := 6) hx hb hts (by decide +kernel) tyX8 tyX8_ok nmX8 hown hK hP hD hS 0 rfl rfl 0 (by decide) (hts (.fieldLink RX8 9 "VerseColumns$Text" "signs" "[C") (by decide +kernel)) (fun _ h9 => h9) rfl hin rfl (by decide +kernel) rfl rfl (Nat.le_of_ble_eq_true rfl) dX8_init_9 (fun H locs hP hD hS => ?_)
  have hP : va_P D vwCl ([(q, .inr (8, [.ref q1, .int 0, .int 0, .int 0, .int 0, .int 0]))] ++ [(q1, .inl (cC, 80, .inl z0))]) H := hP
  have hD : va_D A ([(q, .inr (8, [.ref q1, .int 0, .int 0, .int 0, .int 0, .int 0]))] ++ [(q1, .inl (cC, 80, .inl z0))]) := hD
  exact W.vret hx hb hr (fun t ht hW => ⟨⟨(), rfl, trivial, q1, by rw [ht]; exact hP, hD⟩, hS.F ht⟩) hS.2.2 dX8_init_12
set_option maxHeartbeats 8000000 in
set_option maxRecDepth 100000 in
theorem kX6_init (l : Launch) (D : va_G) (cI cC cS : ClassId) (q : Nat) (sz : Nat) : kMc l yX6_init wsX6_init ({ frames := 1, cells := 0, slots := 0, locals := 12 } : Room) D (kTy cI cC cS) [.ref q] [(q, .inr (6, [.int 0, .int 0]))] sz 0 0 (fun u : Unit => wRR q 0 0) := by
  refine Met.ofW (cc := cX6_init) (maxL := 1) (ret := none) (by decide) rfl ?_
  intro p e s m args below meth c s₁ B hml hv
  obtain ⟨rfl, hsz, hP, hK, hD0, hN⟩ := hv
  have hx := B.exec
  have hb := B.bytes
  have hr := B.returns
  have hts := atoms_spec (ws := wsX6_init) B.pre
  have hown : s.vm.findClass RX6 = some m.cls := findClass_of_methodNamed B.named
  have hlocks := B.notSynchronized
  have hin : meth.name = "<init>" := (name_of_methodNamed B.named B.method).1
  subst hsz
  have hD := hD0.self (sz := s.heap.size)
  generalize hAe : va_A ([(q, .inr (6, [.int 0, .int 0]))]) s.heap.size = A at hD ⊢
  have hA : ∀ q : Nat, s.heap.size ≤ q → A q := fun q h => by rw [← hAe]; exact Or.inr h
  have hS : va_S A s.heap s.heap [] := va_S.rf
  have hl := lv_entry ([.ref q]) (n := 1) (Nat.le_of_ble_eq_true rfl)
  rw [lg_entry_eq]
  generalize (lg_sl ([.ref q]) ++ List.replicate (1 - (lg_sl ([.ref q])).length) Slot.unset).toArray = ls at hl ⊢
  have hl : lv_has ls 1 [(0, .ref q)] := hl
  refine lv_aload_n hx hb dX6_init_0 rfl (lv_at hl 0 rfl) ?_
  refine W.objInit hx hb hown (hts (.methodLink RX6 1 objectInit) (by decide +kernel)) (hts (.instanceMethod objectInit) (by decide +kernel)) (hts (.code objectInit ⟨#[0xb1]⟩ 1 none) (by decide +kernel)) rfl (by rw [hml]; exact hl.1) rfl dX6_init_1 (Nat.le_of_ble_eq_true rfl) (Nat.le_of_ble_eq_true rfl) ?_
  refine W.eq (g2 := F0 m 4 ls []) rfl ?_
  exact W.vret hx hb hr (fun t ht hW => ⟨⟨(), rfl, trivial, (), by rw [ht]; exact hP, hD⟩, hS.F ht⟩) hS.2.2 dX6_init_4
set_option maxHeartbeats 8000000 in
set_option maxRecDepth 100000 in
theorem kX5_init (l : Launch) (D : va_G) (cI cC cS : ClassId) (q : Nat) (sz : Nat) : kMc l yX5_init wsX5_init ({ frames := 1, cells := 0, slots := 0, locals := 12 } : Room) D (kTy cI cC cS) [.ref q] [(q, .inr (5, [.int 0, .int 0, .int 0, .int 0, .int 0, .int 0, .int 0]))] sz 0 0 (fun u : Unit => wRE q 0 0 0 0 0 0 0) := by
  refine Met.ofW (cc := cX5_init) (maxL := 1) (ret := none) (by decide) rfl ?_
  intro p e s m args below meth c s₁ B hml hv
  obtain ⟨rfl, hsz, hP, hK, hD0, hN⟩ := hv
  have hx := B.exec
  have hb := B.bytes
  have hr := B.returns
  have hts := atoms_spec (ws := wsX5_init) B.pre
  have hown : s.vm.findClass RX5 = some m.cls := findClass_of_methodNamed B.named
  have hlocks := B.notSynchronized
  have hin : meth.name = "<init>" := (name_of_methodNamed B.named B.method).1
  subst hsz
  have hD := hD0.self (sz := s.heap.size)
  generalize hAe : va_A ([(q, .inr (5, [.int 0, .int 0, .int 0, .int 0, .int 0, .int 0, .int 0]))]) s.heap.size = A at hD ⊢
  have hA : ∀ q : Nat, s.heap.size ≤ q → A q := fun q h => by rw [← hAe]; exact Or.inr h
  have hS : va_S A s.heap s.heap [] := va_S.rf
  have hl := lv_entry ([.ref q]) (n := 1) (Nat.le_of_ble_eq_true rfl)
  rw [lg_entry_eq]
  generalize (lg_sl ([.ref q]) ++ List.replicate (1 - (lg_sl ([.ref q])).length) Slot.unset).toArray = ls at hl ⊢
  have hl : lv_has ls 1 [(0, .ref q)] := hl
  refine lv_aload_n hx hb dX5_init_0 rfl (lv_at hl 0 rfl) ?_
  refine W.objInit hx hb hown (hts (.methodLink RX5 3 objectInit) (by decide +kernel)) (hts (.instanceMethod objectInit) (by decide +kernel)) (hts (.code objectInit ⟨#[0xb1]⟩ 1 none) (by decide +kernel)) rfl (by rw [hml]; exact hl.1) rfl dX5_init_1 (Nat.le_of_ble_eq_true rfl) (Nat.le_of_ble_eq_true rfl) ?_
  refine W.eq (g2 := F0 m 4 ls []) rfl ?_
  exact W.vret hx hb hr (fun t ht hW => ⟨⟨(), rfl, trivial, (), by rw [ht]; exact hP, hD⟩, hS.F ht⟩) hS.2.2 dX5_init_4
set_option maxHeartbeats 8000000 in
set_option maxRecDepth 100000 in
theorem kX4_init (l : Launch) (D : va_G) (cI cC cS : ClassId) (q : Nat) (sz : Nat) : kMc l yX4_init wsX4_init ({ frames := 2, cells := 3, slots := 243, locals := 32 } : Room) D (kTy cI cC cS) [.ref q] [(q, .inr (4, [.null, .int 0, .int 0]))] sz 3 243 (fun u : Nat × Nat × Nat => (wMR q u.1 0 0 ++ wMP cI u z0 z0 0)) := by
  refine Met.ofW (cc := cX4_init) (maxL := 1) (ret := none) (by decide) rfl ?_
  intro p e s m args below meth c s₁ B hml hv
  obtain ⟨rfl, hsz, hP, hK, hD0, hN⟩ := hv
  have hx := B.exec
  have hb := B.bytes
  have hr := B.returns
  have hts := atoms_spec (ws := wsX4_init) B.pre
  have hown : s.vm.findClass RX4 = some m.cls := findClass_of_methodNamed B.named
  have hlocks := B.notSynchronized
  have hin : meth.name = "<init>" := (name_of_methodNamed B.named B.method).1
  subst hsz
  have hD := hD0.self (sz := s.heap.size)
  generalize hAe : va_A ([(q, .inr (4, [.null, .int 0, .int 0]))]) s.heap.size = A at hD ⊢
  have hA : ∀ q : Nat, s.heap.size ≤ q → A q := fun q h => by rw [← hAe]; exact Or.inr h
  have hS : va_S A s.heap s.heap [] := va_S.rf
  have hl := lv_entry ([.ref q]) (n := 1) (Nat.le_of_ble_eq_true rfl)
  rw [lg_entry_eq]
  generalize (lg_sl ([.ref q]) ++ List.replicate (1 - (lg_sl ([.ref q])).length) Slot.unset).toArray = ls at hl ⊢
  have hl : lv_has ls 1 [(0, .ref q)] := hl
  refine lv_aload_n hx hb dX4_init_0 rfl (lv_at hl 0 rfl) ?_
  refine W.objInit hx hb hown (hts (.methodLink RX4 3 objectInit) (by decide +kernel)) (hts (.instanceMethod objectInit) (by decide +kernel)) (hts (.code objectInit ⟨#[0xb1]⟩ 1 none) (by decide +kernel)) rfl (by rw [hml]; exact hl.1) rfl dX4_init_1 (Nat.le_of_ble_eq_true rfl) (Nat.le_of_ble_eq_true rfl) ?_
  refine W.eq (g2 := F0 m 4 ls []) rfl ?_
  refine lv_aload_n hx hb dX4_init_4 rfl (lv_at hl 0 rfl) ?_
  refine va_new (ci := 1) (fs := [.null, .null, .int 0]) (C := RX1) (T := TX1) (N := 3) hx hb hts (by decide +kernel) tyX1 tyX1_ok hown (hts (.classLink RX4 9 RX1) (by decide +kernel)) (hts (.instantiable RX1 3) (by decide +kernel)) (hts (.initialized RX1) (by decide +kernel)) hK hP hD hS hA rfl (fun j hj => match j, hj with | 0, _ => rfl | 1, _ => rfl | 2, _ => rfl) (Nat.le_of_ble_eq_true rfl) (Nat.le_of_ble_eq_true rfl) dX4_init_5 (fun q1 H hP hD hS => ?_)
  have hP : va_P D vwCl ([(q, .inr (4, [.null, .int 0, .int 0]))] ++ [(q1, .inr (1, [.null, .null, .int 0]))]) H := hP
  have hD : va_D A ([(q, .inr (4, [.null, .int 0, .int 0]))] ++ [(q1, .inr (1, [.null, .null, .int 0]))]) := hD
  refine W.widen (k := 1) (n := 3) (Nat.le_of_ble_eq_true rfl) (Nat.le_of_ble_eq_true rfl) ?_
  refine lv_dup hx hb dX4_init_8 rfl ?_
  have hP : va_P D vwCl (([(q, .inr (4, [.null, .int 0, .int 0]))]) ++ [(q1, .inr (1, [.null, .null, .int 0]))]) H := hP
  have hD : va_D A (([(q, .inr (4, [.null, .int 0, .int 0]))]) ++ [(q1, .inr (1, [.null, .null, .int 0]))]) := hD
  refine kcn (wsp := ([(q, .inr (4, [.null, .int 0, .int 0]))])) (va_runIN (As := []) (rest := [.ref q1, .ref q]) ⟨hx, hb, hml, hown, hts⟩ (kX1_init l D cI cC cS q1 H.size) ⟨va_cnB 0 hts gX4_init_X1_init_n11 rfl rfl rfl (hN.m 7 rfl) (hts (.initialized RX1) (by decide +kernel)) (by decide +kernel) ⟨Nat.le_of_ble_eq_true rfl, Nat.le_of_ble_eq_true rfl⟩, rfl, hts (.instanceMethod yX1_init) (by decide +kernel)⟩ (kpre hK hN hP hD [1] rfl (by decide +kernel)) rfl rfl hl.1 rfl (lv_room (Nat.le_of_ble_eq_true rfl)) dX4_init_9 ⟨Nat.le_of_ble_eq_true rfl, Nat.le_of_ble_eq_true rfl⟩) hP hD hS hA (fun u2 H locs hP hD hS => ?_)
  have hP : va_P D vwCl ([(q, .inr (4, [.null, .int 0, .int 0]))] ++ wMP cI (q1, u2) z0 z0 0) H := hP
  have hD : va_D A ([(q, .inr (4, [.null, .int 0, .int 0]))] ++ wMP cI (q1, u2) z0 z0 0) := hD
  refine W.widen (k := 3) (n := 243) (Nat.le_of_ble_eq_true rfl) (Nat.le_of_ble_eq_true rfl) ?_
  refine va_putF (D := D) (ci := 4) (v := .ref q1) (ty := .object "VerseColumns$GroupMap") (C := RX4) (T := TX4) (N := 3) hx hb hts (by decide +kernel) tyX4 tyX4_ok nmX4 hown hK hP hD hS 0 rfl rfl 0 (by decide) (hts (.fieldLink RX4 12 "VerseColumns$MapReader" "map" "LVerseColumns$GroupMap;") (by decide +kernel)) (fun _ h9 => h9) rfl hin rfl (by decide +kernel) rfl rfl (Nat.le_of_ble_eq_true rfl) dX4_init_12 (fun H locs hP hD hS => ?_)
  have hP : va_P D vwCl ([(q, .inr (4, [.ref q1, .int 0, .int 0]))] ++ wMP cI (q1, u2) z0 z0 0) H := hP
  have hD : va_D A ([(q, .inr (4, [.ref q1, .int 0, .int 0]))] ++ wMP cI (q1, u2) z0 z0 0) := hD
  exact W.vret hx hb hr (fun t ht hW => ⟨⟨(), rfl, trivial, (q1, u2), by rw [ht]; exact hP, hD⟩, hS.F ht⟩) hS.2.2 dX4_init_15
set_option maxHeartbeats 8000000 in
set_option maxRecDepth 100000 in
theorem kX3_init (l : Launch) (D : va_G) (cI cC cS : ClassId) (q : Nat) (sz : Nat) : kMc l yX3_init wsX3_init ({ frames := 1, cells := 4, slots := 480, locals := 12 } : Room) D (kTy cI cC cS) [.ref q] [(q, .inr (3, [.int 0, .int 0, .int 0, .int 0, .null, .null, .null, .null, .int 0, .int 0, .int 0]))] sz 4 480 (fun u : Nat × Nat × Nat × Nat => wLY cI (q, u) 40 40 40 2 z0 z0 z0 z0 0 0 0) := by
  refine Met.ofW (cc := cX3_init) (maxL := 1) (ret := none) (by decide) rfl ?_
  intro p e s m args below meth c s₁ B hml hv
  obtain ⟨rfl, hsz, hP, hK, hD0, hN⟩ := hv
  have hx := B.exec
  have hb := B.bytes
  have hr := B.returns
  have hts := atoms_spec (ws := wsX3_init) B.pre
  have hown : s.vm.findClass RX3 = some m.cls := findClass_of_methodNamed B.named
  have hlocks := B.notSynchronized
  have hin : meth.name = "<init>" := (name_of_methodNamed B.named B.method).1
  subst hsz
  have hD := hD0.self (sz := s.heap.size)
  generalize hAe : va_A ([(q, .inr (3, [.int 0, .int 0, .int 0, .int 0, .null, .null, .null, .null, .int 0, .int 0, .int 0]))]) s.heap.size = A at hD ⊢
  have hA : ∀ q : Nat, s.heap.size ≤ q → A q := fun q h => by rw [← hAe]; exact Or.inr h
  have hS : va_S A s.heap s.heap [] := va_S.rf
  have hl := lv_entry ([.ref q]) (n := 1) (Nat.le_of_ble_eq_true rfl)
  rw [lg_entry_eq]
  generalize (lg_sl ([.ref q]) ++ List.replicate (1 - (lg_sl ([.ref q])).length) Slot.unset).toArray = ls at hl ⊢
  have hl : lv_has ls 1 [(0, .ref q)] := hl
  refine lv_aload_n hx hb dX3_init_0 rfl (lv_at hl 0 rfl) ?_
  refine W.objInit hx hb hown (hts (.methodLink RX3 3 objectInit) (by decide +kernel)) (hts (.instanceMethod objectInit) (by decide +kernel)) (hts (.code objectInit ⟨#[0xb1]⟩ 1 none) (by decide +kernel)) rfl (by rw [hml]; exact hl.1) rfl dX3_init_1 (Nat.le_of_ble_eq_true rfl) (Nat.le_of_ble_eq_true rfl) ?_
  refine W.eq (g2 := F0 m 4 ls []) rfl ?_
  refine lv_aload_n hx hb dX3_init_4 rfl (lv_at hl 0 rfl) ?_
  refine lv_bipush (v := (40 : Int32)) hx hb dX3_init_5 (by decide) ?_
  refine va_put (D := D) (ci := 3) (v := .int (40 : Int32)) (ty := .int) (C := RX3) (T := TX3) (N := 11) hx hb hts (by decide +kernel) tyX3 tyX3_ok nmX3 hown hK hP hD hS 0 rfl rfl 0 (by decide) (hts (.fieldLink RX3 9 "VerseColumns$Layout" "leftWidth" "I") (by decide +kernel)) (fun _ h9 => h9) rfl (by decide +kernel) rfl rfl (Nat.le_of_ble_eq_true rfl) dX3_init_7 (fun H locs hP hD hS => ?_)
  have hP : va_P D vwCl ([(q, .inr (3, [.int (40 : Int32), .int 0, .int 0, .int 0, .null, .null, .null, .null, .int 0, .int 0, .int 0]))]) H := hP
  have hD : va_D A ([(q, .inr (3, [.int (40 : Int32), .int 0, .int 0, .int 0, .null, .null, .null, .null, .int 0, .int 0, .int 0]))]) := hD
  refine lv_aload_n hx hb dX3_init_10 rfl (lv_at hl 0 rfl) ?_
  refine lv_bipush (v := (40 : Int32)) hx hb dX3_init_11 (by decide) ?_
  refine va_put (D := D) (ci := 3) (v := .int (40 : Int32)) (ty := .int) (C := RX3) (T := TX3) (N := 11) hx hb hts (by decide +kernel) tyX3 tyX3_ok nmX3 hown hK hP hD hS 0 rfl rfl 1 (by decide) (hts (.fieldLink RX3 15 "VerseColumns$Layout" "rightWidth" "I") (by decide +kernel)) (fun _ h9 => h9) rfl (by decide +kernel) rfl rfl (Nat.le_of_ble_eq_true rfl) dX3_init_13 (fun H locs hP hD hS => ?_)
  have hP : va_P D vwCl ([(q, .inr (3, [.int (40 : Int32), .int (40 : Int32), .int 0, .int 0, .null, .null, .null, .null, .int 0, .int 0, .int 0]))]) H := hP
  have hD : va_D A ([(q, .inr (3, [.int (40 : Int32), .int (40 : Int32), .int 0, .int 0, .null, .null, .null, .null, .int 0, .int 0, .int 0]))]) := hD
  refine lv_aload_n hx hb dX3_init_16 rfl (lv_at hl 0 rfl) ?_
  refine lv_bipush (v := (40 : Int32)) hx hb dX3_init_17 (by decide) ?_
  refine va_put (D := D) (ci := 3) (v := .int (40 : Int32)) (ty := .int) (C := RX3) (T := TX3) (N := 11) hx hb hts (by decide +kernel) tyX3 tyX3_ok nmX3 hown hK hP hD hS 0 rfl rfl 2 (by decide) (hts (.fieldLink RX3 18 "VerseColumns$Layout" "pageHeight" "I") (by decide +kernel)) (fun _ h9 => h9) rfl (by decide +kernel) rfl rfl (Nat.le_of_ble_eq_true rfl) dX3_init_19 (fun H locs hP hD hS => ?_)
  have hP : va_P D vwCl ([(q, .inr (3, [.int (40 : Int32), .int (40 : Int32), .int (40 : Int32), .int 0, .null, .null, .null, .null, .int 0, .int 0, .int 0]))]) H := hP
  have hD : va_D A ([(q, .inr (3, [.int (40 : Int32), .int (40 : Int32), .int (40 : Int32), .int 0, .null, .null, .null, .null, .int 0, .int 0, .int 0]))]) := hD
  refine lv_aload_n hx hb dX3_init_22 rfl (lv_at hl 0 rfl) ?_
  refine lv_iconst (v := (2 : Int32)) hx hb dX3_init_23 (by decide) ?_
  refine va_put (D := D) (ci := 3) (v := .int (2 : Int32)) (ty := .int) (C := RX3) (T := TX3) (N := 11) hx hb hts (by decide +kernel) tyX3 tyX3_ok nmX3 hown hK hP hD hS 0 rfl rfl 3 (by decide) (hts (.fieldLink RX3 21 "VerseColumns$Layout" "headingHeight" "I") (by decide +kernel)) (fun _ h9 => h9) rfl (by decide +kernel) rfl rfl (Nat.le_of_ble_eq_true rfl) dX3_init_24 (fun H locs hP hD hS => ?_)
  have hP : va_P D vwCl ([(q, .inr (3, [.int (40 : Int32), .int (40 : Int32), .int (40 : Int32), .int (2 : Int32), .null, .null, .null, .null, .int 0, .int 0, .int 0]))]) H := hP
  have hD : va_D A ([(q, .inr (3, [.int (40 : Int32), .int (40 : Int32), .int (40 : Int32), .int (2 : Int32), .null, .null, .null, .null, .int 0, .int 0, .int 0]))]) := hD
  refine lv_aload_n hx hb dX3_init_27 rfl (lv_at hl 0 rfl) ?_
  refine lv_bipush (v := (120 : Int32)) hx hb dX3_init_28 (by decide) ?_
  refine va_newa (atype := .int) hx hb (hts (.arrayClass .int) (by decide +kernel)) rfl hK hP hD hS hA (a0 := (120, .inl z0)) (fun _ => rfl) (by decide) (by decide +kernel) (Nat.le_of_ble_eq_true rfl) (Nat.le_of_ble_eq_true rfl) (Nat.le_of_ble_eq_true rfl) dX3_init_30 (fun q1 cA H hK1 hP hD hS => ?_)
  have hc := kSameI hK hK1
  subst hc
  clear hK1
  have hP : va_P D vwCl ([(q, .inr (3, [.int (40 : Int32), .int (40 : Int32), .int (40 : Int32), .int (2 : Int32), .null, .null, .null, .null, .int 0, .int 0, .int 0]))] ++ [(q1, .inl (cI, 120, .inl z0))]) H := hP
  have hD : va_D A ([(q, .inr (3, [.int (40 : Int32), .int (40 : Int32), .int (40 : Int32), .int (2 : Int32), .null, .null, .null, .null, .int 0, .int 0, .int 0]))] ++ [(q1, .inl (cI, 120, .inl z0))]) := hD
  refine W.widen (k := 1) (n := 120) (Nat.le_of_ble_eq_true rfl) (Nat.le_of_ble_eq_true rfl) ?_
  refine va_putF (D := D) (ci := 3) (v := .ref q1) (ty := .array .int) (C := RX3) (T := TX3) (N := 11) hx hb hts (by decide +kernel) tyX3 tyX3_ok nmX3 hown hK hP hD hS 0 rfl rfl 4 (by decide) (hts (.fieldLink RX3 24 "VerseColumns$Layout" "heights" "[I") (by decide +kernel)) (fun _ h9 => h9) rfl hin rfl (by decide +kernel) rfl rfl (Nat.le_of_ble_eq_true rfl) dX3_init_32 (fun H locs hP hD hS => ?_)
  have hP : va_P D vwCl ([(q, .inr (3, [.int (40 : Int32), .int (40 : Int32), .int (40 : Int32), .int (2 : Int32), .ref q1, .null, .null, .null, .int 0, .int 0, .int 0]))] ++ [(q1, .inl (cI, 120, .inl z0))]) H := hP
  have hD : va_D A ([(q, .inr (3, [.int (40 : Int32), .int (40 : Int32), .int (40 : Int32), .int (2 : Int32), .ref q1, .null, .null, .null, .int 0, .int 0, .int 0]))] ++ [(q1, .inl (cI, 120, .inl z0))]) := hD
  refine lv_aload_n hx hb dX3_init_35 rfl (lv_at hl 0 rfl) ?_
  refine lv_bipush (v := (120 : Int32)) hx hb dX3_init_36 (by decide) ?_
  refine va_newa (atype := .int) hx hb (hts (.arrayClass .int) (by decide +kernel)) rfl hK hP hD hS hA (a0 := (120, .inl z0)) (fun _ => rfl) (by decide) (by decide +kernel) (Nat.le_of_ble_eq_true rfl) (Nat.le_of_ble_eq_true rfl) (Nat.le_of_ble_eq_true rfl) dX3_init_38 (fun q2 cA H hK1 hP hD hS => ?_)
  have hc := kSameI hK hK1
  subst hc
  clear hK1
  have hP : va_P D vwCl ([(q, .inr (3, [.int (40 : Int32), .int (40 : Int32), .int (40 : Int32), .int (2 : Int32), .ref q1, .null, .null, .null, .int 0, .int 0, .int 0]))] ++ ([(q1, .inl (cI, 120, .inl z0))] ++ [(q2, .inl (cI, 120, .inl z0))])) H := hP
  have hD : va_D A ([(q, .inr (3, [.int (40 : Int32), .int (40 : Int32), .int (40 : Int32), .int (2 : Int32), .ref q1, .null, .null, .null, .int 0, .int 0, .int 0]))] ++ ([(q1, .inl (cI, 120, .inl z0))] ++ [(q2, .inl (cI, 120, .inl z0))])) := hD
  refine W.widen (k := 2) (n := 240) (Nat.le_of_ble_eq_true rfl) (Nat.le_of_ble_eq_true rfl) ?_
  refine va_putF (D := D) (ci := 3) (v := .ref q2) (ty := .array .int) (C := RX3) (T := TX3) (N := 11) hx hb hts (by decide +kernel) tyX3 tyX3_ok nmX3 hown hK hP hD hS 0 rfl rfl 5 (by decide) (hts (.fieldLink RX3 28 "VerseColumns$Layout" "notes" "[I") (by decide +kernel)) (fun _ h9 => h9) rfl hin rfl (by decide +kernel) rfl rfl (Nat.le_of_ble_eq_true rfl) dX3_init_40 (fun H locs hP hD hS => ?_)
  have hP : va_P D vwCl ([(q, .inr (3, [.int (40 : Int32), .int (40 : Int32), .int (40 : Int32), .int (2 : Int32), .ref q1, .ref q2, .null, .null, .int 0, .int 0, .int 0]))] ++ ([(q1, .inl (cI, 120, .inl z0))] ++ [(q2, .inl (cI, 120, .inl z0))])) H := hP
  have hD : va_D A ([(q, .inr (3, [.int (40 : Int32), .int (40 : Int32), .int (40 : Int32), .int (2 : Int32), .ref q1, .ref q2, .null, .null, .int 0, .int 0, .int 0]))] ++ ([(q1, .inl (cI, 120, .inl z0))] ++ [(q2, .inl (cI, 120, .inl z0))])) := hD
  refine lv_aload_n hx hb dX3_init_43 rfl (lv_at hl 0 rfl) ?_
  refine lv_bipush (v := (120 : Int32)) hx hb dX3_init_44 (by decide) ?_
  refine va_newa (atype := .int) hx hb (hts (.arrayClass .int) (by decide +kernel)) rfl hK hP hD hS hA (a0 := (120, .inl z0)) (fun _ => rfl) (by decide) (by decide +kernel) (Nat.le_of_ble_eq_true rfl) (Nat.le_of_ble_eq_true rfl) (Nat.le_of_ble_eq_true rfl) dX3_init_46 (fun q3 cA H hK1 hP hD hS => ?_)
  have hc := kSameI hK hK1
  subst hc
  clear hK1
  have hP : va_P D vwCl ([(q, .inr (3, [.int (40 : Int32), .int (40 : Int32), .int (40 : Int32), .int (2 : Int32), .ref q1, .ref q2, .null, .null, .int 0, .int 0, .int 0]))] ++ ([(q1, .inl (cI, 120, .inl z0))] ++ ([(q2, .inl (cI, 120, .inl z0))] ++ [(q3, .inl (cI, 120, .inl z0))]))) H := hP
  have hD : va_D A ([(q, .inr (3, [.int (40 : Int32), .int (40 : Int32), .int (40 : Int32), .int (2 : Int32), .ref q1, .ref q2, .null, .null, .int 0, .int 0, .int 0]))] ++ ([(q1, .inl (cI, 120, .inl z0))] ++ ([(q2, .inl (cI, 120, .inl z0))] ++ [(q3, .inl (cI, 120, .inl z0))]))) := hD
  refine W.widen (k := 3) (n := 360) (Nat.le_of_ble_eq_true rfl) (Nat.le_of_ble_eq_true rfl) ?_
  refine va_putF (D := D) (ci := 3) (v := .ref q3) (ty := .array .int) (C := RX3) (T := TX3) (N := 11) hx hb hts (by decide +kernel) tyX3 tyX3_ok nmX3 hown hK hP hD hS 0 rfl rfl 6 (by decide) (hts (.fieldLink RX3 31 "VerseColumns$Layout" "pageNumbers" "[I") (by decide +kernel)) (fun _ h9 => h9) rfl hin rfl (by decide +kernel) rfl rfl (Nat.le_of_ble_eq_true rfl) dX3_init_48 (fun H locs hP hD hS => ?_)
  have hP : va_P D vwCl ([(q, .inr (3, [.int (40 : Int32), .int (40 : Int32), .int (40 : Int32), .int (2 : Int32), .ref q1, .ref q2, .ref q3, .null, .int 0, .int 0, .int 0]))] ++ ([(q1, .inl (cI, 120, .inl z0))] ++ ([(q2, .inl (cI, 120, .inl z0))] ++ [(q3, .inl (cI, 120, .inl z0))]))) H := hP
  have hD : va_D A ([(q, .inr (3, [.int (40 : Int32), .int (40 : Int32), .int (40 : Int32), .int (2 : Int32), .ref q1, .ref q2, .ref q3, .null, .int 0, .int 0, .int 0]))] ++ ([(q1, .inl (cI, 120, .inl z0))] ++ ([(q2, .inl (cI, 120, .inl z0))] ++ [(q3, .inl (cI, 120, .inl z0))]))) := hD
  refine lv_aload_n hx hb dX3_init_51 rfl (lv_at hl 0 rfl) ?_
  refine lv_bipush (v := (120 : Int32)) hx hb dX3_init_52 (by decide) ?_
  refine va_newa (atype := .int) hx hb (hts (.arrayClass .int) (by decide +kernel)) rfl hK hP hD hS hA (a0 := (120, .inl z0)) (fun _ => rfl) (by decide) (by decide +kernel) (Nat.le_of_ble_eq_true rfl) (Nat.le_of_ble_eq_true rfl) (Nat.le_of_ble_eq_true rfl) dX3_init_54 (fun q4 cA H hK1 hP hD hS => ?_)
  have hc := kSameI hK hK1
  subst hc
  clear hK1
  have hP : va_P D vwCl ([(q, .inr (3, [.int (40 : Int32), .int (40 : Int32), .int (40 : Int32), .int (2 : Int32), .ref q1, .ref q2, .ref q3, .null, .int 0, .int 0, .int 0]))] ++ ([(q1, .inl (cI, 120, .inl z0))] ++ ([(q2, .inl (cI, 120, .inl z0))] ++ ([(q3, .inl (cI, 120, .inl z0))] ++ [(q4, .inl (cI, 120, .inl z0))])))) H := hP
  have hD : va_D A ([(q, .inr (3, [.int (40 : Int32), .int (40 : Int32), .int (40 : Int32), .int (2 : Int32), .ref q1, .ref q2, .ref q3, .null, .int 0, .int 0, .int 0]))] ++ ([(q1, .inl (cI, 120, .inl z0))] ++ ([(q2, .inl (cI, 120, .inl z0))] ++ ([(q3, .inl (cI, 120, .inl z0))] ++ [(q4, .inl (cI, 120, .inl z0))])))) := hD
  refine W.widen (k := 4) (n := 480) (Nat.le_of_ble_eq_true rfl) (Nat.le_of_ble_eq_true rfl) ?_
  refine va_putF (D := D) (ci := 3) (v := .ref q4) (ty := .array .int) (C := RX3) (T := TX3) (N := 11) hx hb hts (by decide +kernel) tyX3 tyX3_ok nmX3 hown hK hP hD hS 0 rfl rfl 7 (by decide) (hts (.fieldLink RX3 34 "VerseColumns$Layout" "lines" "[I") (by decide +kernel)) (fun _ h9 => h9) rfl hin rfl (by decide +kernel) rfl rfl (Nat.le_of_ble_eq_true rfl) dX3_init_56 (fun H locs hP hD hS => ?_)
  have hP : va_P D vwCl ([(q, .inr (3, [.int (40 : Int32), .int (40 : Int32), .int (40 : Int32), .int (2 : Int32), .ref q1, .ref q2, .ref q3, .ref q4, .int 0, .int 0, .int 0]))] ++ ([(q1, .inl (cI, 120, .inl z0))] ++ ([(q2, .inl (cI, 120, .inl z0))] ++ ([(q3, .inl (cI, 120, .inl z0))] ++ [(q4, .inl (cI, 120, .inl z0))])))) H := hP
  have hD : va_D A ([(q, .inr (3, [.int (40 : Int32), .int (40 : Int32), .int (40 : Int32), .int (2 : Int32), .ref q1, .ref q2, .ref q3, .ref q4, .int 0, .int 0, .int 0]))] ++ ([(q1, .inl (cI, 120, .inl z0))] ++ ([(q2, .inl (cI, 120, .inl z0))] ++ ([(q3, .inl (cI, 120, .inl z0))] ++ [(q4, .inl (cI, 120, .inl z0))])))) := hD
  exact W.vret hx hb hr (fun t ht hW => ⟨⟨(), rfl, trivial, (q1, q2, q3, q4), by rw [ht]; exact hP, hD⟩, hS.F ht⟩) hS.2.2 dX3_init_59
