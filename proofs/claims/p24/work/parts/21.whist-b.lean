-- State.bookOf, History (printed by wip/whole/gen/whist.py)
set_option maxHeartbeats 8000000 in
set_option maxRecDepth 100000 in
theorem kX2_dropOldest (l : Launch) (D : va_G) (cI cC cS : ClassId) (aH : aHI) (vH0 : Int32) (vH2 : vST) (vH3 : vST) (vH4 : vST) (vH5 : vST) (vH6 : vST) (sz : Nat) : kMv l yX2_dropOldest wsX2_dropOldest ({ frames := 0, cells := 0, slots := 0, locals := 0 } : Room) D (kTy cI cC cS) [.ref aH.1] (wHF cI cS aH vH0 (hRo aH 0) vH2 vH3 vH4 vH5 vH6) sz (wHF cI cS aH (4 : Int32) (hRo aH 1) vH2 vH3 vH4 vH5 vH6) := by
  refine Met.ofW (cc := cX2_dropOldest) (maxL := 3) (ret := none) (by decide) rfl ?_
  intro p e s m args below meth c s₁ B hml hv
  obtain ⟨rfl, hsz, hP, hK, hD0, hN⟩ := hv
  have hx := B.exec
  have hb := B.bytes
  have hr := B.returns
  have hts := atoms_spec (ws := wsX2_dropOldest) B.pre
  have hown : s.vm.findClass RX2 = some m.cls := findClass_of_methodNamed B.named
  have hlocks := B.notSynchronized
  subst hsz
  have hD := hD0.self (sz := s.heap.size)
  generalize hAe : va_A (wHF cI cS aH vH0 (hRo aH 0) vH2 vH3 vH4 vH5 vH6) s.heap.size = A at hD ⊢
  have hA : ∀ q : Nat, s.heap.size ≤ q → A q := fun q h => by rw [← hAe]; exact Or.inr h
  have hS : va_S A s.heap s.heap [] := va_S.rf
  have huX2 : ∀ w ∈ u_ws RX2 TX2 2, w ∈ wsX2_dropOldest := by decide +kernel
  have hl := lv_entry ([.ref aH.1]) (n := 3) (Nat.le_of_ble_eq_true rfl)
  rw [lg_entry_eq]
  generalize (lg_sl ([.ref aH.1]) ++ List.replicate (3 - (lg_sl ([.ref aH.1])).length) Slot.unset).toArray = ls at hl ⊢
  have hl : lv_has ls 3 [(0, .ref aH.1)] := hl
  refine lv_aload_n hx hb dX2_dropOldest_0 rfl (lv_at hl 0 rfl) ?_
  refine va_get (D := D) (ci := 2) (v := .ref aH.2.1) (C := RX2) (T := TX2) (N := 2) hx hb hts huX2 hown hK hP 0 rfl rfl 0 (by decide) (hts (.fieldLink RX2 11 "VerseColumns$History" "rows" "[LVerseColumns$State;") (by decide +kernel)) (fun _ h9 => h9) rfl dX2_dropOldest_1 ?_
  refine lv_iconst (v := (0 : Int32)) hx hb dX2_dropOldest_4 (by decide) ?_
  refine va_aldq hx hb hK hP 1 2 rfl rfl (kin (i := (0 : Int32)) (n := 5) (by decide)) dX2_dropOldest_5 ?_
  rw [kc0]
  rw [show va_rf ((hRo aH 0) 0) = .ref aH.2.2.1.1 from rfl]
  refine lv_astore_n (lv' := [(1, .ref aH.2.2.1.1), (0, .ref aH.1)]) hx hb dX2_dropOldest_6 rfl hl (by decide) rfl (fun ls hl => ?_)
  refine lv_iconst (v := (1 : Int32)) hx hb dX2_dropOldest_7 (by decide) ?_
  refine lv_istore_n (lv' := [(2, .int (1 : Int32)), (1, .ref aH.2.2.1.1), (0, .ref aH.1)]) hx hb dX2_dropOldest_8 rfl hl (by decide) rfl (fun ls hl => ?_)
  refine lv_iload_n hx hb dX2_dropOldest_9 rfl (lv_at hl 0 rfl) ?_
  refine lv_iconst (v := (5 : Int32)) hx hb dX2_dropOldest_10 (by decide) ?_
  refine lv_icmp_ge (tgt := 34) hx hb dX2_dropOldest_11 (by decide) (fun g => absurd g (by decide)) (fun g => ?_)
  refine lv_aload_n hx hb dX2_dropOldest_14 rfl (lv_at hl 2 rfl) ?_
  refine va_get (D := D) (ci := 2) (v := .ref aH.2.1) (C := RX2) (T := TX2) (N := 2) hx hb hts huX2 hown hK hP 0 rfl rfl 0 (by decide) (hts (.fieldLink RX2 11 "VerseColumns$History" "rows" "[LVerseColumns$State;") (by decide +kernel)) (fun _ h9 => h9) rfl dX2_dropOldest_15 ?_
  refine lv_iload_n hx hb dX2_dropOldest_18 rfl (lv_at hl 0 rfl) ?_
  refine lv_iconst (v := (1 : Int32)) hx hb dX2_dropOldest_19 (by decide) ?_
  refine lv_isub hx hb dX2_dropOldest_20 ?_
  rw [show ((1 : Int32) - (1 : Int32)) = (0 : Int32) from rfl]
  refine lv_aload_n hx hb dX2_dropOldest_21 rfl (lv_at hl 2 rfl) ?_
  refine va_get (D := D) (ci := 2) (v := .ref aH.2.1) (C := RX2) (T := TX2) (N := 2) hx hb hts huX2 hown hK hP 0 rfl rfl 0 (by decide) (hts (.fieldLink RX2 11 "VerseColumns$History" "rows" "[LVerseColumns$State;") (by decide +kernel)) (fun _ h9 => h9) rfl dX2_dropOldest_22 ?_
  refine lv_iload_n hx hb dX2_dropOldest_25 rfl (lv_at hl 0 rfl) ?_
  refine va_aldq hx hb hK hP 1 2 rfl rfl (kin (i := (1 : Int32)) (n := 5) (by decide)) dX2_dropOldest_26 ?_
  rw [kc1]
  rw [show va_rf ((hRo aH 0) 1) = .ref aH.2.2.2.1.1 from rfl]
  refine va_astq hx hb hK hP hD hS 1 2 14 7 rfl rfl rfl rfl (kin (i := (0 : Int32)) (n := 5) (by decide)) dX2_dropOldest_27 (fun H locs hP hD hS => ?_)
  rw [kc0] at hP hD
  have hP : va_P D vwCl (wHF cI cS aH vH0 (va_up (hRo aH 0) 0 (some aH.2.2.2.1.1)) vH2 vH3 vH4 vH5 vH6) H := hP
  have hD : va_D A (wHF cI cS aH vH0 (va_up (hRo aH 0) 0 (some aH.2.2.2.1.1)) vH2 vH3 vH4 vH5 vH6) := hD
  refine lv_iinc (v := (2 : Int32)) (lv' := [(2, .int (2 : Int32)), (1, .ref aH.2.2.1.1), (0, .ref aH.1)]) hx hb dX2_dropOldest_28 hl (k := 0) rfl rfl (by decide) rfl (fun ls hl => ?_)
  refine lv_goto (tgt := 9) hx hb dX2_dropOldest_31 (by decide) ?_
  refine lv_iload_n hx hb dX2_dropOldest_9 rfl (lv_at hl 0 rfl) ?_
  refine lv_iconst (v := (5 : Int32)) hx hb dX2_dropOldest_10 (by decide) ?_
  refine lv_icmp_ge (tgt := 34) hx hb dX2_dropOldest_11 (by decide) (fun g => absurd g (by decide)) (fun g => ?_)
  refine lv_aload_n hx hb dX2_dropOldest_14 rfl (lv_at hl 2 rfl) ?_
  refine va_get (D := D) (ci := 2) (v := .ref aH.2.1) (C := RX2) (T := TX2) (N := 2) hx hb hts huX2 hown hK hP 0 rfl rfl 0 (by decide) (hts (.fieldLink RX2 11 "VerseColumns$History" "rows" "[LVerseColumns$State;") (by decide +kernel)) (fun _ h9 => h9) rfl dX2_dropOldest_15 ?_
  refine lv_iload_n hx hb dX2_dropOldest_18 rfl (lv_at hl 0 rfl) ?_
  refine lv_iconst (v := (1 : Int32)) hx hb dX2_dropOldest_19 (by decide) ?_
  refine lv_isub hx hb dX2_dropOldest_20 ?_
  rw [show ((2 : Int32) - (1 : Int32)) = (1 : Int32) from rfl]
  refine lv_aload_n hx hb dX2_dropOldest_21 rfl (lv_at hl 2 rfl) ?_
  refine va_get (D := D) (ci := 2) (v := .ref aH.2.1) (C := RX2) (T := TX2) (N := 2) hx hb hts huX2 hown hK hP 0 rfl rfl 0 (by decide) (hts (.fieldLink RX2 11 "VerseColumns$History" "rows" "[LVerseColumns$State;") (by decide +kernel)) (fun _ h9 => h9) rfl dX2_dropOldest_22 ?_
  refine lv_iload_n hx hb dX2_dropOldest_25 rfl (lv_at hl 0 rfl) ?_
  refine va_aldq hx hb hK hP 1 2 rfl rfl (kin (i := (2 : Int32)) (n := 5) (by decide)) dX2_dropOldest_26 ?_
  rw [kc2]
  rw [show va_rf ((va_up (hRo aH 0) 0 (some aH.2.2.2.1.1)) 2) = .ref aH.2.2.2.2.1.1 from rfl]
  refine va_astq hx hb hK hP hD hS 1 2 26 7 rfl rfl rfl rfl (kin (i := (1 : Int32)) (n := 5) (by decide)) dX2_dropOldest_27 (fun H locs hP hD hS => ?_)
  rw [kc1] at hP hD
  have hP : va_P D vwCl (wHF cI cS aH vH0 (va_up (va_up (hRo aH 0) 0 (some aH.2.2.2.1.1)) 1 (some aH.2.2.2.2.1.1)) vH2 vH3 vH4 vH5 vH6) H := hP
  have hD : va_D A (wHF cI cS aH vH0 (va_up (va_up (hRo aH 0) 0 (some aH.2.2.2.1.1)) 1 (some aH.2.2.2.2.1.1)) vH2 vH3 vH4 vH5 vH6) := hD
  refine lv_iinc (v := (3 : Int32)) (lv' := [(2, .int (3 : Int32)), (1, .ref aH.2.2.1.1), (0, .ref aH.1)]) hx hb dX2_dropOldest_28 hl (k := 0) rfl rfl (by decide) rfl (fun ls hl => ?_)
  refine lv_goto (tgt := 9) hx hb dX2_dropOldest_31 (by decide) ?_
  refine lv_iload_n hx hb dX2_dropOldest_9 rfl (lv_at hl 0 rfl) ?_
  refine lv_iconst (v := (5 : Int32)) hx hb dX2_dropOldest_10 (by decide) ?_
  refine lv_icmp_ge (tgt := 34) hx hb dX2_dropOldest_11 (by decide) (fun g => absurd g (by decide)) (fun g => ?_)
  refine lv_aload_n hx hb dX2_dropOldest_14 rfl (lv_at hl 2 rfl) ?_
  refine va_get (D := D) (ci := 2) (v := .ref aH.2.1) (C := RX2) (T := TX2) (N := 2) hx hb hts huX2 hown hK hP 0 rfl rfl 0 (by decide) (hts (.fieldLink RX2 11 "VerseColumns$History" "rows" "[LVerseColumns$State;") (by decide +kernel)) (fun _ h9 => h9) rfl dX2_dropOldest_15 ?_
  refine lv_iload_n hx hb dX2_dropOldest_18 rfl (lv_at hl 0 rfl) ?_
  refine lv_iconst (v := (1 : Int32)) hx hb dX2_dropOldest_19 (by decide) ?_
  refine lv_isub hx hb dX2_dropOldest_20 ?_
  rw [show ((3 : Int32) - (1 : Int32)) = (2 : Int32) from rfl]
  refine lv_aload_n hx hb dX2_dropOldest_21 rfl (lv_at hl 2 rfl) ?_
  refine va_get (D := D) (ci := 2) (v := .ref aH.2.1) (C := RX2) (T := TX2) (N := 2) hx hb hts huX2 hown hK hP 0 rfl rfl 0 (by decide) (hts (.fieldLink RX2 11 "VerseColumns$History" "rows" "[LVerseColumns$State;") (by decide +kernel)) (fun _ h9 => h9) rfl dX2_dropOldest_22 ?_
  refine lv_iload_n hx hb dX2_dropOldest_25 rfl (lv_at hl 0 rfl) ?_
  refine va_aldq hx hb hK hP 1 2 rfl rfl (kin (i := (3 : Int32)) (n := 5) (by decide)) dX2_dropOldest_26 ?_
  rw [kc3]
  rw [show va_rf ((va_up (va_up (hRo aH 0) 0 (some aH.2.2.2.1.1)) 1 (some aH.2.2.2.2.1.1)) 3) = .ref aH.2.2.2.2.2.1.1 from rfl]
  refine va_astq hx hb hK hP hD hS 1 2 38 7 rfl rfl rfl rfl (kin (i := (2 : Int32)) (n := 5) (by decide)) dX2_dropOldest_27 (fun H locs hP hD hS => ?_)
  rw [kc2] at hP hD
  have hP : va_P D vwCl (wHF cI cS aH vH0 (va_up (va_up (va_up (hRo aH 0) 0 (some aH.2.2.2.1.1)) 1 (some aH.2.2.2.2.1.1)) 2 (some aH.2.2.2.2.2.1.1)) vH2 vH3 vH4 vH5 vH6) H := hP
  have hD : va_D A (wHF cI cS aH vH0 (va_up (va_up (va_up (hRo aH 0) 0 (some aH.2.2.2.1.1)) 1 (some aH.2.2.2.2.1.1)) 2 (some aH.2.2.2.2.2.1.1)) vH2 vH3 vH4 vH5 vH6) := hD
  refine lv_iinc (v := (4 : Int32)) (lv' := [(2, .int (4 : Int32)), (1, .ref aH.2.2.1.1), (0, .ref aH.1)]) hx hb dX2_dropOldest_28 hl (k := 0) rfl rfl (by decide) rfl (fun ls hl => ?_)
  refine lv_goto (tgt := 9) hx hb dX2_dropOldest_31 (by decide) ?_
  refine lv_iload_n hx hb dX2_dropOldest_9 rfl (lv_at hl 0 rfl) ?_
  refine lv_iconst (v := (5 : Int32)) hx hb dX2_dropOldest_10 (by decide) ?_
  refine lv_icmp_ge (tgt := 34) hx hb dX2_dropOldest_11 (by decide) (fun g => absurd g (by decide)) (fun g => ?_)
  refine lv_aload_n hx hb dX2_dropOldest_14 rfl (lv_at hl 2 rfl) ?_
  refine va_get (D := D) (ci := 2) (v := .ref aH.2.1) (C := RX2) (T := TX2) (N := 2) hx hb hts huX2 hown hK hP 0 rfl rfl 0 (by decide) (hts (.fieldLink RX2 11 "VerseColumns$History" "rows" "[LVerseColumns$State;") (by decide +kernel)) (fun _ h9 => h9) rfl dX2_dropOldest_15 ?_
  refine lv_iload_n hx hb dX2_dropOldest_18 rfl (lv_at hl 0 rfl) ?_
  refine lv_iconst (v := (1 : Int32)) hx hb dX2_dropOldest_19 (by decide) ?_
  refine lv_isub hx hb dX2_dropOldest_20 ?_
  rw [show ((4 : Int32) - (1 : Int32)) = (3 : Int32) from rfl]
  refine lv_aload_n hx hb dX2_dropOldest_21 rfl (lv_at hl 2 rfl) ?_
  refine va_get (D := D) (ci := 2) (v := .ref aH.2.1) (C := RX2) (T := TX2) (N := 2) hx hb hts huX2 hown hK hP 0 rfl rfl 0 (by decide) (hts (.fieldLink RX2 11 "VerseColumns$History" "rows" "[LVerseColumns$State;") (by decide +kernel)) (fun _ h9 => h9) rfl dX2_dropOldest_22 ?_
  refine lv_iload_n hx hb dX2_dropOldest_25 rfl (lv_at hl 0 rfl) ?_
  refine va_aldq hx hb hK hP 1 2 rfl rfl (kin (i := (4 : Int32)) (n := 5) (by decide)) dX2_dropOldest_26 ?_
  rw [kc4]
  rw [show va_rf ((va_up (va_up (va_up (hRo aH 0) 0 (some aH.2.2.2.1.1)) 1 (some aH.2.2.2.2.1.1)) 2 (some aH.2.2.2.2.2.1.1)) 4) = .ref aH.2.2.2.2.2.2.1 from rfl]
  refine va_astq hx hb hK hP hD hS 1 2 50 7 rfl rfl rfl rfl (kin (i := (3 : Int32)) (n := 5) (by decide)) dX2_dropOldest_27 (fun H locs hP hD hS => ?_)
  rw [kc3] at hP hD
  have hP : va_P D vwCl (wHF cI cS aH vH0 (va_up (va_up (va_up (va_up (hRo aH 0) 0 (some aH.2.2.2.1.1)) 1 (some aH.2.2.2.2.1.1)) 2 (some aH.2.2.2.2.2.1.1)) 3 (some aH.2.2.2.2.2.2.1)) vH2 vH3 vH4 vH5 vH6) H := hP
  have hD : va_D A (wHF cI cS aH vH0 (va_up (va_up (va_up (va_up (hRo aH 0) 0 (some aH.2.2.2.1.1)) 1 (some aH.2.2.2.2.1.1)) 2 (some aH.2.2.2.2.2.1.1)) 3 (some aH.2.2.2.2.2.2.1)) vH2 vH3 vH4 vH5 vH6) := hD
  refine lv_iinc (v := (5 : Int32)) (lv' := [(2, .int (5 : Int32)), (1, .ref aH.2.2.1.1), (0, .ref aH.1)]) hx hb dX2_dropOldest_28 hl (k := 0) rfl rfl (by decide) rfl (fun ls hl => ?_)
  refine lv_goto (tgt := 9) hx hb dX2_dropOldest_31 (by decide) ?_
  refine lv_iload_n hx hb dX2_dropOldest_9 rfl (lv_at hl 0 rfl) ?_
  refine lv_iconst (v := (5 : Int32)) hx hb dX2_dropOldest_10 (by decide) ?_
  refine lv_icmp_ge (tgt := 34) hx hb dX2_dropOldest_11 (by decide) (fun g => ?_) (fun g => absurd (by decide) g)
  refine lv_aload_n hx hb dX2_dropOldest_34 rfl (lv_at hl 2 rfl) ?_
  refine va_get (D := D) (ci := 2) (v := .ref aH.2.1) (C := RX2) (T := TX2) (N := 2) hx hb hts huX2 hown hK hP 0 rfl rfl 0 (by decide) (hts (.fieldLink RX2 11 "VerseColumns$History" "rows" "[LVerseColumns$State;") (by decide +kernel)) (fun _ h9 => h9) rfl dX2_dropOldest_35 ?_
  refine lv_iconst (v := (4 : Int32)) hx hb dX2_dropOldest_38 (by decide) ?_
  refine lv_aload_n hx hb dX2_dropOldest_39 rfl (lv_at hl 1 rfl) ?_
  refine va_astq hx hb hK hP hD hS 1 2 2 7 rfl rfl rfl rfl (kin (i := (4 : Int32)) (n := 5) (by decide)) dX2_dropOldest_40 (fun H locs hP hD hS => ?_)
  rw [kc4] at hP hD
  have hP : va_P D vwCl (wHF cI cS aH vH0 (va_up (va_up (va_up (va_up (va_up (hRo aH 0) 0 (some aH.2.2.2.1.1)) 1 (some aH.2.2.2.2.1.1)) 2 (some aH.2.2.2.2.2.1.1)) 3 (some aH.2.2.2.2.2.2.1)) 4 (some aH.2.2.1.1)) vH2 vH3 vH4 vH5 vH6) H := hP
  have hD : va_D A (wHF cI cS aH vH0 (va_up (va_up (va_up (va_up (va_up (hRo aH 0) 0 (some aH.2.2.2.1.1)) 1 (some aH.2.2.2.2.1.1)) 2 (some aH.2.2.2.2.2.1.1)) 3 (some aH.2.2.2.2.2.2.1)) 4 (some aH.2.2.1.1)) vH2 vH3 vH4 vH5 vH6) := hD
  refine lv_aload_n hx hb dX2_dropOldest_41 rfl (lv_at hl 2 rfl) ?_
  refine lv_iconst (v := (4 : Int32)) hx hb dX2_dropOldest_42 (by decide) ?_
  refine va_put (D := D) (ci := 2) (v := .int (4 : Int32)) (ty := .int) (C := RX2) (T := TX2) (N := 2) hx hb hts huX2 tyX2 tyX2_ok nmX2 hown hK hP hD hS 0 rfl rfl 1 (by decide) (hts (.fieldLink RX2 18 "VerseColumns$History" "states" "I") (by decide +kernel)) (fun _ h9 => h9) rfl (by decide +kernel) rfl rfl (Nat.le_of_ble_eq_true rfl) dX2_dropOldest_43 (fun H locs hP hD hS => ?_)
  have hP : va_P D vwCl (wHF cI cS aH (4 : Int32) (va_up (va_up (va_up (va_up (va_up (hRo aH 0) 0 (some aH.2.2.2.1.1)) 1 (some aH.2.2.2.2.1.1)) 2 (some aH.2.2.2.2.2.1.1)) 3 (some aH.2.2.2.2.2.2.1)) 4 (some aH.2.2.1.1)) vH2 vH3 vH4 vH5 vH6) H := hP
  have hD : va_D A (wHF cI cS aH (4 : Int32) (va_up (va_up (va_up (va_up (va_up (hRo aH 0) 0 (some aH.2.2.2.1.1)) 1 (some aH.2.2.2.2.1.1)) 2 (some aH.2.2.2.2.2.1.1)) 3 (some aH.2.2.2.2.2.2.1)) 4 (some aH.2.2.1.1)) vH2 vH3 vH4 vH5 vH6) := hD
  have hP : va_P D vwCl (wHF cI cS aH (4 : Int32) (hRo aH 1) vH2 vH3 vH4 vH5 vH6) H := kHFP hP (fun j hj => match j, hj with | 0, _ => rfl | 1, _ => rfl | 2, _ => rfl | 3, _ => rfl | 4, _ => rfl)
  have hD : va_D A (wHF cI cS aH (4 : Int32) (hRo aH 1) vH2 vH3 vH4 vH5 vH6) := kHFD hD
  exact W.vret hx hb hr (fun t ht hW => ⟨⟨(), rfl, trivial, by rw [ht]; exact hP, hD⟩, hS.F ht⟩) hS.2.2 dX2_dropOldest_46
