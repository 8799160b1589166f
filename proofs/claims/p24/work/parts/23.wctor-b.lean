-- constructors (printed by wip/whole/gen/wctor.py)
set_option maxHeartbeats 8000000 in
set_option maxRecDepth 100000 in
theorem kX2_init (l : Launch) (D : va_G) (cI cC cS : ClassId) (q : Nat) (sz : Nat) : kMc l yX2_init wsX2_init ({ frames := 3, cells := 61, slots := 3075, locals := 52 } : Room) D (kTy cI cC cS) [.ref q] [(q, .inr (2, [.null, .int 0]))] sz 61 3075 (fun u : Nat × aST × aST × aST × aST × aST => wHI cI cS (q, u) 0 0 zST zST zST zST zST) := by
  refine Met.ofW (cc := cX2_init) (maxL := 2) (ret := none) (by decide) rfl ?_
  intro p e s m args below meth c s₁ B hml hv
  obtain ⟨rfl, hsz, hP, hK, hD0, hN⟩ := hv
  have hx := B.exec
  have hb := B.bytes
  have hr := B.returns
  have hts := atoms_spec (ws := wsX2_init) B.pre
  have hown : s.vm.findClass RX2 = some m.cls := findClass_of_methodNamed B.named
  have hlocks := B.notSynchronized
  have hin : meth.name = "<init>" := (name_of_methodNamed B.named B.method).1
  subst hsz
  have hD := hD0.self (sz := s.heap.size)
  generalize hAe : va_A ([(q, .inr (2, [.null, .int 0]))]) s.heap.size = A at hD ⊢
  have hA : ∀ q : Nat, s.heap.size ≤ q → A q := fun q h => by rw [← hAe]; exact Or.inr h
  have hS : va_S A s.heap s.heap [] := va_S.rf
  have hl := lv_entry ([.ref q]) (n := 2) (Nat.le_of_ble_eq_true rfl)
  rw [lg_entry_eq]
  generalize (lg_sl ([.ref q]) ++ List.replicate (2 - (lg_sl ([.ref q])).length) Slot.unset).toArray = ls at hl ⊢
  have hl : lv_has ls 2 [(0, .ref q)] := hl
  refine lv_aload_n hx hb dX2_init_0 rfl (lv_at hl 0 rfl) ?_
  refine W.objInit hx hb hown (hts (.methodLink RX2 3 objectInit) (by decide +kernel)) (hts (.instanceMethod objectInit) (by decide +kernel)) (hts (.code objectInit ⟨#[0xb1]⟩ 1 none) (by decide +kernel)) rfl (by rw [hml]; exact hl.1) rfl dX2_init_1 (Nat.le_of_ble_eq_true rfl) (Nat.le_of_ble_eq_true rfl) ?_
  refine W.eq (g2 := F0 m 4 ls []) rfl ?_
  refine lv_aload_n hx hb dX2_init_4 rfl (lv_at hl 0 rfl) ?_
  refine lv_iconst (v := (5 : Int32)) hx hb dX2_init_5 (by decide) ?_
  refine va_newq (C := RX7) hx hb hown (hts (.classLink RX2 9 RX7) (by decide +kernel)) hN.2.2 hK hP hD hS hA (by decide) (N' := 5) (by decide +kernel) (Nat.le_of_ble_eq_true rfl) (Nat.le_of_ble_eq_true rfl) (Nat.le_of_ble_eq_true rfl) dX2_init_6 (fun q1 cA H hK1 hP hD hS => ?_)
  have hc := kSameS hK hK1
  subst hc
  clear hK1
  have hP : va_P D vwCl ([(q, .inr (2, [.null, .int 0]))] ++ [(q1, .inl (cS, 5, .inr (.inr (.inr (.inr (fun _ => none))))))]) H := hP
  have hD : va_D A ([(q, .inr (2, [.null, .int 0]))] ++ [(q1, .inl (cS, 5, .inr (.inr (.inr (.inr (fun _ => none))))))]) := hD
  refine W.widen (k := 1) (n := 5) (Nat.le_of_ble_eq_true rfl) (Nat.le_of_ble_eq_true rfl) ?_
  refine va_putF (D := D) (ci := 2) (v := .ref q1) (ty := .array (.object "VerseColumns$State")) (C := RX2) (T := TX2) (N := 2) hx hb hts (by decide +kernel) tyX2 tyX2_ok nmX2 hown hK hP hD hS 0 rfl rfl 0 (by decide) (hts (.fieldLink RX2 11 "VerseColumns$History" "rows" "[LVerseColumns$State;") (by decide +kernel)) (fun _ h9 => h9) rfl hin rfl (by decide +kernel) rfl rfl (Nat.le_of_ble_eq_true rfl) dX2_init_9 (fun H locs hP hD hS => ?_)
  have hP : va_P D vwCl ([(q, .inr (2, [.ref q1, .int 0]))] ++ [(q1, .inl (cS, 5, .inr (.inr (.inr (.inr (fun _ => none))))))]) H := hP
  have hD : va_D A ([(q, .inr (2, [.ref q1, .int 0]))] ++ [(q1, .inl (cS, 5, .inr (.inr (.inr (.inr (fun _ => none))))))]) := hD
  refine lv_iconst (v := (0 : Int32)) hx hb dX2_init_12 (by decide) ?_
  refine lv_istore_n (lv' := [(1, .int (0 : Int32)), (0, .ref q)]) hx hb dX2_init_13 rfl hl (by decide) rfl (fun ls hl => ?_)
  refine lv_iload_n hx hb dX2_init_14 rfl (lv_at hl 0 rfl) ?_
  refine lv_iconst (v := (5 : Int32)) hx hb dX2_init_15 (by decide) ?_
  refine lv_icmp_ge (tgt := 38) hx hb dX2_init_16 (by decide) (fun g => absurd g (by decide)) (fun g => ?_)
  refine lv_aload_n hx hb dX2_init_19 rfl (lv_at hl 1 rfl) ?_
  refine va_get (D := D) (ci := 2) (v := .ref q1) (C := RX2) (T := TX2) (N := 2) hx hb hts (by decide +kernel) hown hK hP 0 rfl rfl 0 (by decide) (hts (.fieldLink RX2 11 "VerseColumns$History" "rows" "[LVerseColumns$State;") (by decide +kernel)) (fun _ h9 => h9) rfl dX2_init_20 ?_
  refine lv_iload_n hx hb dX2_init_23 rfl (lv_at hl 0 rfl) ?_
  refine va_new (ci := 7) (fs := [.null, .null, .null]) (C := RX7) (T := TX7) (N := 3) hx hb hts (by decide +kernel) tyX7 tyX7_ok hown (hts (.classLink RX2 9 RX7) (by decide +kernel)) (hts (.instantiable RX7 3) (by decide +kernel)) (hts (.initialized RX7) (by decide +kernel)) hK hP hD hS hA rfl (fun j hj => match j, hj with | 0, _ => rfl | 1, _ => rfl | 2, _ => rfl) (Nat.le_of_ble_eq_true rfl) (Nat.le_of_ble_eq_true rfl) dX2_init_24 (fun q2 H hP hD hS => ?_)
  have hP : va_P D vwCl ([(q, .inr (2, [.ref q1, .int 0]))] ++ ([(q1, .inl (cS, 5, .inr (.inr (.inr (.inr (fun _ => none))))))] ++ [(q2, .inr (7, [.null, .null, .null]))])) H := hP
  have hD : va_D A ([(q, .inr (2, [.ref q1, .int 0]))] ++ ([(q1, .inl (cS, 5, .inr (.inr (.inr (.inr (fun _ => none))))))] ++ [(q2, .inr (7, [.null, .null, .null]))])) := hD
  refine W.widen (k := 2) (n := 8) (Nat.le_of_ble_eq_true rfl) (Nat.le_of_ble_eq_true rfl) ?_
  refine lv_dup hx hb dX2_init_27 rfl ?_
  have hP : va_P D vwCl (([(q, .inr (2, [.ref q1, .int 0]))] ++ [(q1, .inl (cS, 5, .inr (.inr (.inr (.inr (fun _ => none))))))]) ++ [(q2, .inr (7, [.null, .null, .null]))]) H := hP
  have hD : va_D A (([(q, .inr (2, [.ref q1, .int 0]))] ++ [(q1, .inl (cS, 5, .inr (.inr (.inr (.inr (fun _ => none))))))]) ++ [(q2, .inr (7, [.null, .null, .null]))]) := hD
  refine kcn (wsp := ([(q, .inr (2, [.ref q1, .int 0]))] ++ [(q1, .inl (cS, 5, .inr (.inr (.inr (.inr (fun _ => none))))))])) (va_runIN (As := []) (rest := [.ref q2, .int (0 : Int32), .ref q1]) ⟨hx, hb, hml, hown, hts⟩ (kX7_init l D cI cC cS q2 H.size) ⟨va_cnB 0 hts gX2_init_X7_init_n17 rfl rfl rfl (hN.m 3 rfl) (hts (.initialized RX7) (by decide +kernel)) (by decide +kernel) ⟨Nat.le_of_ble_eq_true rfl, Nat.le_of_ble_eq_true rfl⟩, rfl, hts (.instanceMethod yX7_init) (by decide +kernel)⟩ (kpre hK hN hP hD [2] rfl (by decide +kernel)) rfl rfl hl.1 rfl (lv_room (Nat.le_of_ble_eq_true rfl)) dX2_init_28 ⟨Nat.le_of_ble_eq_true rfl, Nat.le_of_ble_eq_true rfl⟩) hP hD hS hA (fun u3 H locs hP hD hS => ?_)
  have hP : va_P D vwCl ([(q, .inr (2, [.ref q1, .int 0]))] ++ ([(q1, .inl (cS, 5, .inr (.inr (.inr (.inr (fun _ => none))))))] ++ wST cI (q2, u3) zST)) H := hP
  have hD : va_D A ([(q, .inr (2, [.ref q1, .int 0]))] ++ ([(q1, .inl (cS, 5, .inr (.inr (.inr (.inr (fun _ => none))))))] ++ wST cI (q2, u3) zST)) := hD
  refine W.widen (k := 13) (n := 619) (Nat.le_of_ble_eq_true rfl) (Nat.le_of_ble_eq_true rfl) ?_
  refine va_astq hx hb hK hP hD hS 1 2 2 7 rfl rfl rfl rfl (kin (i := (0 : Int32)) (n := 5) (by decide)) dX2_init_31 (fun H locs hP hD hS => ?_)
  rw [kc0] at hP hD
  have hP : va_P D vwCl ([(q, .inr (2, [.ref q1, .int 0]))] ++ ([(q1, .inl (cS, 5, .inr (.inr (.inr (.inr (va_up (fun _ => none) 0 (some q2)))))))] ++ wST cI (q2, u3) zST)) H := hP
  have hD : va_D A ([(q, .inr (2, [.ref q1, .int 0]))] ++ ([(q1, .inl (cS, 5, .inr (.inr (.inr (.inr (va_up (fun _ => none) 0 (some q2)))))))] ++ wST cI (q2, u3) zST)) := hD
  refine lv_iinc (v := (1 : Int32)) (lv' := [(1, .int (1 : Int32)), (0, .ref q)]) hx hb dX2_init_32 hl (k := 0) rfl rfl (by decide) rfl (fun ls hl => ?_)
  refine lv_goto (tgt := 14) hx hb dX2_init_35 (by decide) ?_
  refine lv_iload_n hx hb dX2_init_14 rfl (lv_at hl 0 rfl) ?_
  refine lv_iconst (v := (5 : Int32)) hx hb dX2_init_15 (by decide) ?_
  refine lv_icmp_ge (tgt := 38) hx hb dX2_init_16 (by decide) (fun g => absurd g (by decide)) (fun g => ?_)
  refine lv_aload_n hx hb dX2_init_19 rfl (lv_at hl 1 rfl) ?_
  refine va_get (D := D) (ci := 2) (v := .ref q1) (C := RX2) (T := TX2) (N := 2) hx hb hts (by decide +kernel) hown hK hP 0 rfl rfl 0 (by decide) (hts (.fieldLink RX2 11 "VerseColumns$History" "rows" "[LVerseColumns$State;") (by decide +kernel)) (fun _ h9 => h9) rfl dX2_init_20 ?_
  refine lv_iload_n hx hb dX2_init_23 rfl (lv_at hl 0 rfl) ?_
  refine va_new (ci := 7) (fs := [.null, .null, .null]) (C := RX7) (T := TX7) (N := 3) hx hb hts (by decide +kernel) tyX7 tyX7_ok hown (hts (.classLink RX2 9 RX7) (by decide +kernel)) (hts (.instantiable RX7 3) (by decide +kernel)) (hts (.initialized RX7) (by decide +kernel)) hK hP hD hS hA rfl (fun j hj => match j, hj with | 0, _ => rfl | 1, _ => rfl | 2, _ => rfl) (Nat.le_of_ble_eq_true rfl) (Nat.le_of_ble_eq_true rfl) dX2_init_24 (fun q4 H hP hD hS => ?_)
  have hP : va_P D vwCl ([(q, .inr (2, [.ref q1, .int 0]))] ++ ([(q1, .inl (cS, 5, .inr (.inr (.inr (.inr (va_up (fun _ => none) 0 (some q2)))))))] ++ (wST cI (q2, u3) zST ++ [(q4, .inr (7, [.null, .null, .null]))]))) H := hP
  have hD : va_D A ([(q, .inr (2, [.ref q1, .int 0]))] ++ ([(q1, .inl (cS, 5, .inr (.inr (.inr (.inr (va_up (fun _ => none) 0 (some q2)))))))] ++ (wST cI (q2, u3) zST ++ [(q4, .inr (7, [.null, .null, .null]))]))) := hD
  refine W.widen (k := 14) (n := 622) (Nat.le_of_ble_eq_true rfl) (Nat.le_of_ble_eq_true rfl) ?_
  refine lv_dup hx hb dX2_init_27 rfl ?_
  have hP : va_P D vwCl (([(q, .inr (2, [.ref q1, .int 0]))] ++ ([(q1, .inl (cS, 5, .inr (.inr (.inr (.inr (va_up (fun _ => none) 0 (some q2)))))))] ++ wST cI (q2, u3) zST)) ++ [(q4, .inr (7, [.null, .null, .null]))]) H := hP
  have hD : va_D A (([(q, .inr (2, [.ref q1, .int 0]))] ++ ([(q1, .inl (cS, 5, .inr (.inr (.inr (.inr (va_up (fun _ => none) 0 (some q2)))))))] ++ wST cI (q2, u3) zST)) ++ [(q4, .inr (7, [.null, .null, .null]))]) := hD
  refine kcn (wsp := ([(q, .inr (2, [.ref q1, .int 0]))] ++ ([(q1, .inl (cS, 5, .inr (.inr (.inr (.inr (va_up (fun _ => none) 0 (some q2)))))))] ++ wST cI (q2, u3) zST))) (va_runIN (As := []) (rest := [.ref q4, .int (1 : Int32), .ref q1]) ⟨hx, hb, hml, hown, hts⟩ (kX7_init l D cI cC cS q4 H.size) ⟨va_cnB 0 hts gX2_init_X7_init_n17 rfl rfl rfl (hN.m 3 rfl) (hts (.initialized RX7) (by decide +kernel)) (by decide +kernel) ⟨Nat.le_of_ble_eq_true rfl, Nat.le_of_ble_eq_true rfl⟩, rfl, hts (.instanceMethod yX7_init) (by decide +kernel)⟩ (kpre hK hN hP hD [14] rfl (by decide +kernel)) rfl rfl hl.1 rfl (lv_room (Nat.le_of_ble_eq_true rfl)) dX2_init_28 ⟨Nat.le_of_ble_eq_true rfl, Nat.le_of_ble_eq_true rfl⟩) hP hD hS hA (fun u5 H locs hP hD hS => ?_)
  have hP : va_P D vwCl ([(q, .inr (2, [.ref q1, .int 0]))] ++ ([(q1, .inl (cS, 5, .inr (.inr (.inr (.inr (va_up (fun _ => none) 0 (some q2)))))))] ++ (wST cI (q2, u3) zST ++ wST cI (q4, u5) zST))) H := hP
  have hD : va_D A ([(q, .inr (2, [.ref q1, .int 0]))] ++ ([(q1, .inl (cS, 5, .inr (.inr (.inr (.inr (va_up (fun _ => none) 0 (some q2)))))))] ++ (wST cI (q2, u3) zST ++ wST cI (q4, u5) zST))) := hD
  refine W.widen (k := 25) (n := 1233) (Nat.le_of_ble_eq_true rfl) (Nat.le_of_ble_eq_true rfl) ?_
  refine va_astq hx hb hK hP hD hS 1 2 14 7 rfl rfl rfl rfl (kin (i := (1 : Int32)) (n := 5) (by decide)) dX2_init_31 (fun H locs hP hD hS => ?_)
  rw [kc1] at hP hD
  have hP : va_P D vwCl ([(q, .inr (2, [.ref q1, .int 0]))] ++ ([(q1, .inl (cS, 5, .inr (.inr (.inr (.inr (va_up (va_up (fun _ => none) 0 (some q2)) 1 (some q4)))))))] ++ (wST cI (q2, u3) zST ++ wST cI (q4, u5) zST))) H := hP
  have hD : va_D A ([(q, .inr (2, [.ref q1, .int 0]))] ++ ([(q1, .inl (cS, 5, .inr (.inr (.inr (.inr (va_up (va_up (fun _ => none) 0 (some q2)) 1 (some q4)))))))] ++ (wST cI (q2, u3) zST ++ wST cI (q4, u5) zST))) := hD
  refine lv_iinc (v := (2 : Int32)) (lv' := [(1, .int (2 : Int32)), (0, .ref q)]) hx hb dX2_init_32 hl (k := 0) rfl rfl (by decide) rfl (fun ls hl => ?_)
  refine lv_goto (tgt := 14) hx hb dX2_init_35 (by decide) ?_
  refine lv_iload_n hx hb dX2_init_14 rfl (lv_at hl 0 rfl) ?_
  refine lv_iconst (v := (5 : Int32)) hx hb dX2_init_15 (by decide) ?_
  refine lv_icmp_ge (tgt := 38) hx hb dX2_init_16 (by decide) (fun g => absurd g (by decide)) (fun g => ?_)
  refine lv_aload_n hx hb dX2_init_19 rfl (lv_at hl 1 rfl) ?_
  refine va_get (D := D) (ci := 2) (v := .ref q1) (C := RX2) (T := TX2) (N := 2) hx hb hts (by decide +kernel) hown hK hP 0 rfl rfl 0 (by decide) (hts (.fieldLink RX2 11 "VerseColumns$History" "rows" "[LVerseColumns$State;") (by decide +kernel)) (fun _ h9 => h9) rfl dX2_init_20 ?_
  refine lv_iload_n hx hb dX2_init_23 rfl (lv_at hl 0 rfl) ?_
  refine va_new (ci := 7) (fs := [.null, .null, .null]) (C := RX7) (T := TX7) (N := 3) hx hb hts (by decide +kernel) tyX7 tyX7_ok hown (hts (.classLink RX2 9 RX7) (by decide +kernel)) (hts (.instantiable RX7 3) (by decide +kernel)) (hts (.initialized RX7) (by decide +kernel)) hK hP hD hS hA rfl (fun j hj => match j, hj with | 0, _ => rfl | 1, _ => rfl | 2, _ => rfl) (Nat.le_of_ble_eq_true rfl) (Nat.le_of_ble_eq_true rfl) dX2_init_24 (fun q6 H hP hD hS => ?_)
  have hP : va_P D vwCl ([(q, .inr (2, [.ref q1, .int 0]))] ++ ([(q1, .inl (cS, 5, .inr (.inr (.inr (.inr (va_up (va_up (fun _ => none) 0 (some q2)) 1 (some q4)))))))] ++ (wST cI (q2, u3) zST ++ (wST cI (q4, u5) zST ++ [(q6, .inr (7, [.null, .null, .null]))])))) H := hP
  have hD : va_D A ([(q, .inr (2, [.ref q1, .int 0]))] ++ ([(q1, .inl (cS, 5, .inr (.inr (.inr (.inr (va_up (va_up (fun _ => none) 0 (some q2)) 1 (some q4)))))))] ++ (wST cI (q2, u3) zST ++ (wST cI (q4, u5) zST ++ [(q6, .inr (7, [.null, .null, .null]))])))) := hD
  refine W.widen (k := 26) (n := 1236) (Nat.le_of_ble_eq_true rfl) (Nat.le_of_ble_eq_true rfl) ?_
  refine lv_dup hx hb dX2_init_27 rfl ?_
  have hP : va_P D vwCl (([(q, .inr (2, [.ref q1, .int 0]))] ++ ([(q1, .inl (cS, 5, .inr (.inr (.inr (.inr (va_up (va_up (fun _ => none) 0 (some q2)) 1 (some q4)))))))] ++ (wST cI (q2, u3) zST ++ wST cI (q4, u5) zST))) ++ [(q6, .inr (7, [.null, .null, .null]))]) H := hP
  have hD : va_D A (([(q, .inr (2, [.ref q1, .int 0]))] ++ ([(q1, .inl (cS, 5, .inr (.inr (.inr (.inr (va_up (va_up (fun _ => none) 0 (some q2)) 1 (some q4)))))))] ++ (wST cI (q2, u3) zST ++ wST cI (q4, u5) zST))) ++ [(q6, .inr (7, [.null, .null, .null]))]) := hD
  refine kcn (wsp := ([(q, .inr (2, [.ref q1, .int 0]))] ++ ([(q1, .inl (cS, 5, .inr (.inr (.inr (.inr (va_up (va_up (fun _ => none) 0 (some q2)) 1 (some q4)))))))] ++ (wST cI (q2, u3) zST ++ wST cI (q4, u5) zST)))) (va_runIN (As := []) (rest := [.ref q6, .int (2 : Int32), .ref q1]) ⟨hx, hb, hml, hown, hts⟩ (kX7_init l D cI cC cS q6 H.size) ⟨va_cnB 0 hts gX2_init_X7_init_n17 rfl rfl rfl (hN.m 3 rfl) (hts (.initialized RX7) (by decide +kernel)) (by decide +kernel) ⟨Nat.le_of_ble_eq_true rfl, Nat.le_of_ble_eq_true rfl⟩, rfl, hts (.instanceMethod yX7_init) (by decide +kernel)⟩ (kpre hK hN hP hD [26] rfl (by decide +kernel)) rfl rfl hl.1 rfl (lv_room (Nat.le_of_ble_eq_true rfl)) dX2_init_28 ⟨Nat.le_of_ble_eq_true rfl, Nat.le_of_ble_eq_true rfl⟩) hP hD hS hA (fun u7 H locs hP hD hS => ?_)
  have hP : va_P D vwCl ([(q, .inr (2, [.ref q1, .int 0]))] ++ ([(q1, .inl (cS, 5, .inr (.inr (.inr (.inr (va_up (va_up (fun _ => none) 0 (some q2)) 1 (some q4)))))))] ++ (wST cI (q2, u3) zST ++ (wST cI (q4, u5) zST ++ wST cI (q6, u7) zST)))) H := hP
  have hD : va_D A ([(q, .inr (2, [.ref q1, .int 0]))] ++ ([(q1, .inl (cS, 5, .inr (.inr (.inr (.inr (va_up (va_up (fun _ => none) 0 (some q2)) 1 (some q4)))))))] ++ (wST cI (q2, u3) zST ++ (wST cI (q4, u5) zST ++ wST cI (q6, u7) zST)))) := hD
  refine W.widen (k := 37) (n := 1847) (Nat.le_of_ble_eq_true rfl) (Nat.le_of_ble_eq_true rfl) ?_
  refine va_astq hx hb hK hP hD hS 1 2 26 7 rfl rfl rfl rfl (kin (i := (2 : Int32)) (n := 5) (by decide)) dX2_init_31 (fun H locs hP hD hS => ?_)
  rw [kc2] at hP hD
  have hP : va_P D vwCl ([(q, .inr (2, [.ref q1, .int 0]))] ++ ([(q1, .inl (cS, 5, .inr (.inr (.inr (.inr (va_up (va_up (va_up (fun _ => none) 0 (some q2)) 1 (some q4)) 2 (some q6)))))))] ++ (wST cI (q2, u3) zST ++ (wST cI (q4, u5) zST ++ wST cI (q6, u7) zST)))) H := hP
  have hD : va_D A ([(q, .inr (2, [.ref q1, .int 0]))] ++ ([(q1, .inl (cS, 5, .inr (.inr (.inr (.inr (va_up (va_up (va_up (fun _ => none) 0 (some q2)) 1 (some q4)) 2 (some q6)))))))] ++ (wST cI (q2, u3) zST ++ (wST cI (q4, u5) zST ++ wST cI (q6, u7) zST)))) := hD
  refine lv_iinc (v := (3 : Int32)) (lv' := [(1, .int (3 : Int32)), (0, .ref q)]) hx hb dX2_init_32 hl (k := 0) rfl rfl (by decide) rfl (fun ls hl => ?_)
  refine lv_goto (tgt := 14) hx hb dX2_init_35 (by decide) ?_
  refine lv_iload_n hx hb dX2_init_14 rfl (lv_at hl 0 rfl) ?_
  refine lv_iconst (v := (5 : Int32)) hx hb dX2_init_15 (by decide) ?_
  refine lv_icmp_ge (tgt := 38) hx hb dX2_init_16 (by decide) (fun g => absurd g (by decide)) (fun g => ?_)
  refine lv_aload_n hx hb dX2_init_19 rfl (lv_at hl 1 rfl) ?_
  refine va_get (D := D) (ci := 2) (v := .ref q1) (C := RX2) (T := TX2) (N := 2) hx hb hts (by decide +kernel) hown hK hP 0 rfl rfl 0 (by decide) (hts (.fieldLink RX2 11 "VerseColumns$History" "rows" "[LVerseColumns$State;") (by decide +kernel)) (fun _ h9 => h9) rfl dX2_init_20 ?_
  refine lv_iload_n hx hb dX2_init_23 rfl (lv_at hl 0 rfl) ?_
  refine va_new (ci := 7) (fs := [.null, .null, .null]) (C := RX7) (T := TX7) (N := 3) hx hb hts (by decide +kernel) tyX7 tyX7_ok hown (hts (.classLink RX2 9 RX7) (by decide +kernel)) (hts (.instantiable RX7 3) (by decide +kernel)) (hts (.initialized RX7) (by decide +kernel)) hK hP hD hS hA rfl (fun j hj => match j, hj with | 0, _ => rfl | 1, _ => rfl | 2, _ => rfl) (Nat.le_of_ble_eq_true rfl) (Nat.le_of_ble_eq_true rfl) dX2_init_24 (fun q8 H hP hD hS => ?_)
  have hP : va_P D vwCl ([(q, .inr (2, [.ref q1, .int 0]))] ++ ([(q1, .inl (cS, 5, .inr (.inr (.inr (.inr (va_up (va_up (va_up (fun _ => none) 0 (some q2)) 1 (some q4)) 2 (some q6)))))))] ++ (wST cI (q2, u3) zST ++ (wST cI (q4, u5) zST ++ (wST cI (q6, u7) zST ++ [(q8, .inr (7, [.null, .null, .null]))]))))) H := hP
  have hD : va_D A ([(q, .inr (2, [.ref q1, .int 0]))] ++ ([(q1, .inl (cS, 5, .inr (.inr (.inr (.inr (va_up (va_up (va_up (fun _ => none) 0 (some q2)) 1 (some q4)) 2 (some q6)))))))] ++ (wST cI (q2, u3) zST ++ (wST cI (q4, u5) zST ++ (wST cI (q6, u7) zST ++ [(q8, .inr (7, [.null, .null, .null]))]))))) := hD
  refine W.widen (k := 38) (n := 1850) (Nat.le_of_ble_eq_true rfl) (Nat.le_of_ble_eq_true rfl) ?_
  refine lv_dup hx hb dX2_init_27 rfl ?_
  have hP : va_P D vwCl (([(q, .inr (2, [.ref q1, .int 0]))] ++ ([(q1, .inl (cS, 5, .inr (.inr (.inr (.inr (va_up (va_up (va_up (fun _ => none) 0 (some q2)) 1 (some q4)) 2 (some q6)))))))] ++ (wST cI (q2, u3) zST ++ (wST cI (q4, u5) zST ++ wST cI (q6, u7) zST)))) ++ [(q8, .inr (7, [.null, .null, .null]))]) H := hP
  have hD : va_D A (([(q, .inr (2, [.ref q1, .int 0]))] ++ ([(q1, .inl (cS, 5, .inr (.inr (.inr (.inr (va_up (va_up (va_up (fun _ => none) 0 (some q2)) 1 (some q4)) 2 (some q6)))))))] ++ (wST cI (q2, u3) zST ++ (wST cI (q4, u5) zST ++ wST cI (q6, u7) zST)))) ++ [(q8, .inr (7, [.null, .null, .null]))]) := hD
  refine kcn (wsp := ([(q, .inr (2, [.ref q1, .int 0]))] ++ ([(q1, .inl (cS, 5, .inr (.inr (.inr (.inr (va_up (va_up (va_up (fun _ => none) 0 (some q2)) 1 (some q4)) 2 (some q6)))))))] ++ (wST cI (q2, u3) zST ++ (wST cI (q4, u5) zST ++ wST cI (q6, u7) zST))))) (va_runIN (As := []) (rest := [.ref q8, .int (3 : Int32), .ref q1]) ⟨hx, hb, hml, hown, hts⟩ (kX7_init l D cI cC cS q8 H.size) ⟨va_cnB 0 hts gX2_init_X7_init_n17 rfl rfl rfl (hN.m 3 rfl) (hts (.initialized RX7) (by decide +kernel)) (by decide +kernel) ⟨Nat.le_of_ble_eq_true rfl, Nat.le_of_ble_eq_true rfl⟩, rfl, hts (.instanceMethod yX7_init) (by decide +kernel)⟩ (kpre hK hN hP hD [38] rfl (by decide +kernel)) rfl rfl hl.1 rfl (lv_room (Nat.le_of_ble_eq_true rfl)) dX2_init_28 ⟨Nat.le_of_ble_eq_true rfl, Nat.le_of_ble_eq_true rfl⟩) hP hD hS hA (fun u9 H locs hP hD hS => ?_)
  have hP : va_P D vwCl ([(q, .inr (2, [.ref q1, .int 0]))] ++ ([(q1, .inl (cS, 5, .inr (.inr (.inr (.inr (va_up (va_up (va_up (fun _ => none) 0 (some q2)) 1 (some q4)) 2 (some q6)))))))] ++ (wST cI (q2, u3) zST ++ (wST cI (q4, u5) zST ++ (wST cI (q6, u7) zST ++ wST cI (q8, u9) zST))))) H := hP
  have hD : va_D A ([(q, .inr (2, [.ref q1, .int 0]))] ++ ([(q1, .inl (cS, 5, .inr (.inr (.inr (.inr (va_up (va_up (va_up (fun _ => none) 0 (some q2)) 1 (some q4)) 2 (some q6)))))))] ++ (wST cI (q2, u3) zST ++ (wST cI (q4, u5) zST ++ (wST cI (q6, u7) zST ++ wST cI (q8, u9) zST))))) := hD
  refine W.widen (k := 49) (n := 2461) (Nat.le_of_ble_eq_true rfl) (Nat.le_of_ble_eq_true rfl) ?_
  refine va_astq hx hb hK hP hD hS 1 2 38 7 rfl rfl rfl rfl (kin (i := (3 : Int32)) (n := 5) (by decide)) dX2_init_31 (fun H locs hP hD hS => ?_)
  rw [kc3] at hP hD
  have hP : va_P D vwCl ([(q, .inr (2, [.ref q1, .int 0]))] ++ ([(q1, .inl (cS, 5, .inr (.inr (.inr (.inr (va_up (va_up (va_up (va_up (fun _ => none) 0 (some q2)) 1 (some q4)) 2 (some q6)) 3 (some q8)))))))] ++ (wST cI (q2, u3) zST ++ (wST cI (q4, u5) zST ++ (wST cI (q6, u7) zST ++ wST cI (q8, u9) zST))))) H := hP
  have hD : va_D A ([(q, .inr (2, [.ref q1, .int 0]))] ++ ([(q1, .inl (cS, 5, .inr (.inr (.inr (.inr (va_up (va_up (va_up (va_up (fun _ => none) 0 (some q2)) 1 (some q4)) 2 (some q6)) 3 (some q8)))))))] ++ (wST cI (q2, u3) zST ++ (wST cI (q4, u5) zST ++ (wST cI (q6, u7) zST ++ wST cI (q8, u9) zST))))) := hD
  refine lv_iinc (v := (4 : Int32)) (lv' := [(1, .int (4 : Int32)), (0, .ref q)]) hx hb dX2_init_32 hl (k := 0) rfl rfl (by decide) rfl (fun ls hl => ?_)
  refine lv_goto (tgt := 14) hx hb dX2_init_35 (by decide) ?_
  refine lv_iload_n hx hb dX2_init_14 rfl (lv_at hl 0 rfl) ?_
  refine lv_iconst (v := (5 : Int32)) hx hb dX2_init_15 (by decide) ?_
  refine lv_icmp_ge (tgt := 38) hx hb dX2_init_16 (by decide) (fun g => absurd g (by decide)) (fun g => ?_)
  refine lv_aload_n hx hb dX2_init_19 rfl (lv_at hl 1 rfl) ?_
  refine va_get (D := D) (ci := 2) (v := .ref q1) (C := RX2) (T := TX2) (N := 2) hx hb hts (by decide +kernel) hown hK hP 0 rfl rfl 0 (by decide) (hts (.fieldLink RX2 11 "VerseColumns$History" "rows" "[LVerseColumns$State;") (by decide +kernel)) (fun _ h9 => h9) rfl dX2_init_20 ?_
  refine lv_iload_n hx hb dX2_init_23 rfl (lv_at hl 0 rfl) ?_
  refine va_new (ci := 7) (fs := [.null, .null, .null]) (C := RX7) (T := TX7) (N := 3) hx hb hts (by decide +kernel) tyX7 tyX7_ok hown (hts (.classLink RX2 9 RX7) (by decide +kernel)) (hts (.instantiable RX7 3) (by decide +kernel)) (hts (.initialized RX7) (by decide +kernel)) hK hP hD hS hA rfl (fun j hj => match j, hj with | 0, _ => rfl | 1, _ => rfl | 2, _ => rfl) (Nat.le_of_ble_eq_true rfl) (Nat.le_of_ble_eq_true rfl) dX2_init_24 (fun q10 H hP hD hS => ?_)
  have hP : va_P D vwCl ([(q, .inr (2, [.ref q1, .int 0]))] ++ ([(q1, .inl (cS, 5, .inr (.inr (.inr (.inr (va_up (va_up (va_up (va_up (fun _ => none) 0 (some q2)) 1 (some q4)) 2 (some q6)) 3 (some q8)))))))] ++ (wST cI (q2, u3) zST ++ (wST cI (q4, u5) zST ++ (wST cI (q6, u7) zST ++ (wST cI (q8, u9) zST ++ [(q10, .inr (7, [.null, .null, .null]))])))))) H := hP
  have hD : va_D A ([(q, .inr (2, [.ref q1, .int 0]))] ++ ([(q1, .inl (cS, 5, .inr (.inr (.inr (.inr (va_up (va_up (va_up (va_up (fun _ => none) 0 (some q2)) 1 (some q4)) 2 (some q6)) 3 (some q8)))))))] ++ (wST cI (q2, u3) zST ++ (wST cI (q4, u5) zST ++ (wST cI (q6, u7) zST ++ (wST cI (q8, u9) zST ++ [(q10, .inr (7, [.null, .null, .null]))])))))) := hD
  refine W.widen (k := 50) (n := 2464) (Nat.le_of_ble_eq_true rfl) (Nat.le_of_ble_eq_true rfl) ?_
  refine lv_dup hx hb dX2_init_27 rfl ?_
  have hP : va_P D vwCl (([(q, .inr (2, [.ref q1, .int 0]))] ++ ([(q1, .inl (cS, 5, .inr (.inr (.inr (.inr (va_up (va_up (va_up (va_up (fun _ => none) 0 (some q2)) 1 (some q4)) 2 (some q6)) 3 (some q8)))))))] ++ (wST cI (q2, u3) zST ++ (wST cI (q4, u5) zST ++ (wST cI (q6, u7) zST ++ wST cI (q8, u9) zST))))) ++ [(q10, .inr (7, [.null, .null, .null]))]) H := hP
  have hD : va_D A (([(q, .inr (2, [.ref q1, .int 0]))] ++ ([(q1, .inl (cS, 5, .inr (.inr (.inr (.inr (va_up (va_up (va_up (va_up (fun _ => none) 0 (some q2)) 1 (some q4)) 2 (some q6)) 3 (some q8)))))))] ++ (wST cI (q2, u3) zST ++ (wST cI (q4, u5) zST ++ (wST cI (q6, u7) zST ++ wST cI (q8, u9) zST))))) ++ [(q10, .inr (7, [.null, .null, .null]))]) := hD
  refine kcn (wsp := ([(q, .inr (2, [.ref q1, .int 0]))] ++ ([(q1, .inl (cS, 5, .inr (.inr (.inr (.inr (va_up (va_up (va_up (va_up (fun _ => none) 0 (some q2)) 1 (some q4)) 2 (some q6)) 3 (some q8)))))))] ++ (wST cI (q2, u3) zST ++ (wST cI (q4, u5) zST ++ (wST cI (q6, u7) zST ++ wST cI (q8, u9) zST)))))) (va_runIN (As := []) (rest := [.ref q10, .int (4 : Int32), .ref q1]) ⟨hx, hb, hml, hown, hts⟩ (kX7_init l D cI cC cS q10 H.size) ⟨va_cnB 0 hts gX2_init_X7_init_n17 rfl rfl rfl (hN.m 3 rfl) (hts (.initialized RX7) (by decide +kernel)) (by decide +kernel) ⟨Nat.le_of_ble_eq_true rfl, Nat.le_of_ble_eq_true rfl⟩, rfl, hts (.instanceMethod yX7_init) (by decide +kernel)⟩ (kpre hK hN hP hD [50] rfl (by decide +kernel)) rfl rfl hl.1 rfl (lv_room (Nat.le_of_ble_eq_true rfl)) dX2_init_28 ⟨Nat.le_of_ble_eq_true rfl, Nat.le_of_ble_eq_true rfl⟩) hP hD hS hA (fun u11 H locs hP hD hS => ?_)
  have hP : va_P D vwCl ([(q, .inr (2, [.ref q1, .int 0]))] ++ ([(q1, .inl (cS, 5, .inr (.inr (.inr (.inr (va_up (va_up (va_up (va_up (fun _ => none) 0 (some q2)) 1 (some q4)) 2 (some q6)) 3 (some q8)))))))] ++ (wST cI (q2, u3) zST ++ (wST cI (q4, u5) zST ++ (wST cI (q6, u7) zST ++ (wST cI (q8, u9) zST ++ wST cI (q10, u11) zST)))))) H := hP
  have hD : va_D A ([(q, .inr (2, [.ref q1, .int 0]))] ++ ([(q1, .inl (cS, 5, .inr (.inr (.inr (.inr (va_up (va_up (va_up (va_up (fun _ => none) 0 (some q2)) 1 (some q4)) 2 (some q6)) 3 (some q8)))))))] ++ (wST cI (q2, u3) zST ++ (wST cI (q4, u5) zST ++ (wST cI (q6, u7) zST ++ (wST cI (q8, u9) zST ++ wST cI (q10, u11) zST)))))) := hD
  refine W.widen (k := 61) (n := 3075) (Nat.le_of_ble_eq_true rfl) (Nat.le_of_ble_eq_true rfl) ?_
  refine va_astq hx hb hK hP hD hS 1 2 50 7 rfl rfl rfl rfl (kin (i := (4 : Int32)) (n := 5) (by decide)) dX2_init_31 (fun H locs hP hD hS => ?_)
  rw [kc4] at hP hD
  have hP : va_P D vwCl ([(q, .inr (2, [.ref q1, .int 0]))] ++ ([(q1, .inl (cS, 5, .inr (.inr (.inr (.inr (va_up (va_up (va_up (va_up (va_up (fun _ => none) 0 (some q2)) 1 (some q4)) 2 (some q6)) 3 (some q8)) 4 (some q10)))))))] ++ (wST cI (q2, u3) zST ++ (wST cI (q4, u5) zST ++ (wST cI (q6, u7) zST ++ (wST cI (q8, u9) zST ++ wST cI (q10, u11) zST)))))) H := hP
  have hD : va_D A ([(q, .inr (2, [.ref q1, .int 0]))] ++ ([(q1, .inl (cS, 5, .inr (.inr (.inr (.inr (va_up (va_up (va_up (va_up (va_up (fun _ => none) 0 (some q2)) 1 (some q4)) 2 (some q6)) 3 (some q8)) 4 (some q10)))))))] ++ (wST cI (q2, u3) zST ++ (wST cI (q4, u5) zST ++ (wST cI (q6, u7) zST ++ (wST cI (q8, u9) zST ++ wST cI (q10, u11) zST)))))) := hD
  refine lv_iinc (v := (5 : Int32)) (lv' := [(1, .int (5 : Int32)), (0, .ref q)]) hx hb dX2_init_32 hl (k := 0) rfl rfl (by decide) rfl (fun ls hl => ?_)
  refine lv_goto (tgt := 14) hx hb dX2_init_35 (by decide) ?_
  refine lv_iload_n hx hb dX2_init_14 rfl (lv_at hl 0 rfl) ?_
  refine lv_iconst (v := (5 : Int32)) hx hb dX2_init_15 (by decide) ?_
  refine lv_icmp_ge (tgt := 38) hx hb dX2_init_16 (by decide) (fun g => ?_) (fun g => absurd (by decide) g)
  have hP : va_P D vwCl (wHF cI cS ((q, (q1, (q2, u3), (q4, u5), (q6, u7), (q8, u9), (q10, u11))) : aHI) 0 (va_up (va_up (va_up (va_up (va_up (fun _ => none) 0 (some q2)) 1 (some q4)) 2 (some q6)) 3 (some q8)) 4 (some q10)) zST zST zST zST zST) H := hP
  have hD : va_D A (wHF cI cS ((q, (q1, (q2, u3), (q4, u5), (q6, u7), (q8, u9), (q10, u11))) : aHI) 0 (va_up (va_up (va_up (va_up (va_up (fun _ => none) 0 (some q2)) 1 (some q4)) 2 (some q6)) 3 (some q8)) 4 (some q10)) zST zST zST zST zST) := hD
  have hP : va_P D vwCl (wHI cI cS ((q, (q1, (q2, u3), (q4, u5), (q6, u7), (q8, u9), (q10, u11))) : aHI) 0 0 zST zST zST zST zST) H := kHFP hP (fun j hj => match j, hj with | 0, _ => rfl | 1, _ => rfl | 2, _ => rfl | 3, _ => rfl | 4, _ => rfl)
  have hD : va_D A (wHI cI cS ((q, (q1, (q2, u3), (q4, u5), (q6, u7), (q8, u9), (q10, u11))) : aHI) 0 0 zST zST zST zST zST) := kHFD hD
  exact W.vret hx hb hr (fun t ht hW => ⟨⟨(), rfl, trivial, (q1, (q2, u3), (q4, u5), (q6, u7), (q8, u9), (q10, u11)), by rw [ht]; exact hP, hD⟩, hS.F ht⟩) hS.2.2 dX2_init_38
