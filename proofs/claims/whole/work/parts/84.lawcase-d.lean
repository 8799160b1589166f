section LAW
variable {p : Program} {l : Launch} {e : Env} {s : State} {m : MethodId} {below : List Frame} {meth : Method} {c : Code} {D : va_G} {cI cC cS : ClassId} {aV : Nat} {aD : Nat × Nat × Nat × Nat × Nat × Nat × Nat × Nat × Nat × Nat × Nat} {b L i : Nat} {xs : Nat → Int32} {Q : State → Prop} {ls : Array Slot} {H : Heap} {locs : List Loc}
set_option maxRecDepth 100000 in
set_option maxHeartbeats 8000000 in
theorem lw_c12 (hx : p.tables.exec = Jvm.exec) (hb : c.code = code) (hml : c.maxLocals = 4) (hown : s.vm.findClass RL = some m.cls) (hts : ∀ w ∈ wsL_law, w.before #[Value.ref b] s = true) (hX : va_X b L xs s s.heap) (hbl : b < s.heap.size) (hK : va_K D vwCl (kTy cI cC cS) s) (hN : kN s) (hI : lwI D cI cC cS s aV aD H locs) (hL : L ≤ 2560) (hi : i + 5 ≤ L) (hl : lv_has ls 4 [(0, .ref b), (1, .ref aV), (2, .ref aD.1), (3, .int (nI i))]) (kk : ∀ (H : Heap) (locs : List Loc), lwI D cI cC cS s aV aD H locs → W p l e room_1 s m #[Value.ref b] below meth c H locs 99 8985 Q (F0 m 777 ls [])) : W p l e room_1 s m #[Value.ref b] below meth c H locs 99 8985 Q (F0 m 460 ls []) := by
  have hA : ∀ q : Nat, s.heap.size ≤ q → (fun q : Nat => s.heap.size ≤ q) q := fun _ h => h
  have hbA : ¬ (fun q : Nat => s.heap.size ≤ q) b := Nat.not_le.mpr hbl
  refine hI _ (fun aS aL aR aM aH aT aU aJ aN aE aY vL0 vL1 vL2 vL3 vR0 vR1 vR2 vR3 vM0 vM1 vM2 k s0 s1 s2 s3 s4 vT0 vT1 vT2 vT3 vT4 vT5 vU0 vU1 vJ0 vJ1 vN0 vN1 vN2 vE0 vE1 vE2 vE3 vE4 vE5 vE6 vY0 vY1 vY2 vY3 vY4 vY5 vY6 vY7 vY8 vY9 vY10 WW VV vD3 vD4 vD5 vD6 vD7 vD8 vD9 vD10 vD11 vD12 vD13 vD14 w vD16 vD17 vD18 vD19 vD20 vD21 vD22 ph hh hP hD hS hSt hHi hTx hWd hZt => ?_)
  have hj1 : vp_in (nI i + (1 : Int32)) L := lw_in (i := i) (j := 1) (by omega) hL
  have hj2 : vp_in (nI i + (2 : Int32)) L := lw_in (i := i) (j := 2) (by omega) hL
  obtain ⟨a, z2, z3, z4, z5, w0, w1, y0, y1, y2, y3, y4, y5, y6, e5, e6, e7, e13, e14, hC, hR⟩ := e_refer hSt hTx vT2 vT3 vT4 vT5 vU0 vU1 vE0 vE1 vE2 vE3 vE4 vE5 vE6 vD5 vD6 vD7 vD13 vD14 (xs (nI i + (1 : Int32)).toNatClampNeg) (xs (nI i + (2 : Int32)).toNatClampNeg)
  refine lv_aload_n hx hb dL_law_460 rfl (lv_at hl 1 rfl) ?_
  refine lv_aload_n hx hb dL_law_461 rfl (lv_at hl 0 rfl) ?_
  refine lv_iload_n hx hb dL_law_462 rfl (lv_at hl 3 rfl) ?_
  refine lv_iconst (v := (1 : Int32)) hx hb dL_law_463 (by decide) ?_
  refine lv_iadd hx hb dL_law_464 ?_
  refine va_sld hx hb hX hbl hbA hS hj1 dL_law_465 ?_
  refine lv_aload_n hx hb dL_law_466 rfl (lv_at hl 0 rfl) ?_
  refine lv_iload_n hx hb dL_law_467 rfl (lv_at hl 3 rfl) ?_
  refine lv_iconst (v := (2 : Int32)) hx hb dL_law_468 (by decide) ?_
  refine lv_iadd hx hb dL_law_469 ?_
  refine va_sld hx hb hX hbl hbA hS hj2 dL_law_470 ?_
  have hp := lw_pm4 (wVC aV aS aH.1 aT.1 aU aJ aE aY.1) (wSC aS aL.1 aR.1 aM.1) (wBK cI aL vL0 vL1 vL2 vL3) (wBK cI aR vR0 vR1 vR2 vR3) (wMP cI aM vM0 vM1 vM2) (wHF cI cS aH (I k) (hRo aH 0) s0 s1 s2 s3 s4) (wTX cC aT vT0 vT1 vT2 vT3 vT4 vT5) (wRR aU vU0 vU1) (wMR aJ aN.1 vJ0 vJ1) (wMP cI aN vN0 vN1 vN2) (wRE aE vE0 vE1 vE2 vE3 vE4 vE5 vE6) (wLY cI aY vY0 vY1 vY2 vY3 vY4 vY5 vY6 vY7 vY8 vY9 vY10) (wMD cC cI aD (cz WW) (cz VV) (I k) vD3 vD4 vD5 vD6 vD7 vD8 vD9 vD10 vD11 vD12 vD13 vD14 (cz w) vD16 vD17 vD18 vD19 vD20 vD21 vD22)
  have hp2 := lw_pm4 (wVC aV aS aH.1 aT.1 aU aJ aE aY.1) (wSC aS aL.1 aR.1 aM.1) (wBK cI aL vL0 vL1 vL2 vL3) (wBK cI aR vR0 vR1 vR2 vR3) (wMP cI aM vM0 vM1 vM2) (wHF cI cS aH (I k) (hRo aH 0) s0 s1 s2 s3 s4) (wTX cC aT vT0 vT1 z2 z3 z4 z5) (wRR aU w0 w1) (wMR aJ aN.1 vJ0 vJ1) (wMP cI aN vN0 vN1 vN2) (wRE aE y0 y1 y2 y3 y4 y5 y6) (wLY cI aY vY0 vY1 vY2 vY3 vY4 vY5 vY6 vY7 vY8 vY9 vY10) (wMD cC cI aD (cz WW) (cz VV) (I k) vD3 vD4 vD5 vD6 vD7 vD8 vD9 vD10 vD11 vD12 vD13 vD14 (cz w) vD16 vD17 vD18 vD19 vD20 vD21 vD22)
  refine kciwQ (res := a) (ws' := (wAll cI cC cS aV aS aL aR aM aH (hRo aH 0) aT aU aJ aN aE aY aD vL0 vL1 vL2 vL3 vR0 vR1 vR2 vR3 vM0 vM1 vM2 (I k) s0 s1 s2 s3 s4 vT0 vT1 z2 z3 z4 z5 w0 w1 vJ0 vJ1 vN0 vN1 vN2 y0 y1 y2 y3 y4 y5 y6 vY0 vY1 vY2 vY3 vY4 vY5 vY6 vY7 vY8 vY9 vY10 (cz WW) (cz VV) (I k) vD3 vD4 vD5 vD6 vD7 vD8 vD9 vD10 vD11 vD12 vD13 vD14 (cz w) vD16 vD17 vD18 vD19 vD20 vD21 vD22)) hp hp2.symm (va_runV (As := [.int (xs (nI i + (1 : Int32)).toNatClampNeg), .int (xs (nI i + (2 : Int32)).toNatClampNeg)]) (rest := []) ⟨hx, hb, hml, hown, hts⟩ (kX9_refer l D cI cC cS aV aH.1 aJ aY.1 aS aL vL0 vL1 vL2 vL3 aR vR0 vR1 vR2 vR3 aM vM0 vM1 vM2 aT vT0 vT1 vT2 vT3 vT4 vT5 aU vU0 vU1 aE vE0 vE1 vE2 vE3 vE4 vE5 vE6 (xs (nI i + (1 : Int32)).toNatClampNeg) (xs (nI i + (2 : Int32)).toNatClampNeg) H.size hC) (cwV 2 hts gL_law_X9_refer rfl rfl rfl (by decide +kernel) ⟨Nat.le_of_ble_eq_true rfl, Nat.le_of_ble_eq_true rfl⟩) (kpreVQ hp hK hN hP hD 9 rfl rfl) rfl rfl hl.1 rfl (lv_room (Nat.le_of_ble_eq_true rfl)) dL_law_471 ⟨Nat.le_of_ble_eq_true rfl, Nat.le_of_ble_eq_true rfl⟩) hP hD hS hA (fun H locs hP hD hS => ?_)
  clear hp2
  clear hp
  refine lv_aload_n hx hb dL_law_474 rfl (lv_at hl 2 rfl) ?_
  refine lv_aload_n hx hb dL_law_475 rfl (lv_at hl 0 rfl) ?_
  refine lv_iload_n hx hb dL_law_476 rfl (lv_at hl 3 rfl) ?_
  refine lv_iconst (v := (1 : Int32)) hx hb dL_law_477 (by decide) ?_
  refine lv_iadd hx hb dL_law_478 ?_
  refine va_sld hx hb hX hbl hbA hS hj1 dL_law_479 ?_
  refine lv_aload_n hx hb dL_law_480 rfl (lv_at hl 0 rfl) ?_
  refine lv_iload_n hx hb dL_law_481 rfl (lv_at hl 3 rfl) ?_
  refine lv_iconst (v := (2 : Int32)) hx hb dL_law_482 (by decide) ?_
  refine lv_iadd hx hb dL_law_483 ?_
  refine va_sld hx hb hX hbl hbA hS hj2 dL_law_484 ?_
  have hp := lw_pm1 (wVC aV aS aH.1 aT.1 aU aJ aE aY.1) (wSC aS aL.1 aR.1 aM.1) (wBK cI aL vL0 vL1 vL2 vL3) (wBK cI aR vR0 vR1 vR2 vR3) (wMP cI aM vM0 vM1 vM2) (wHF cI cS aH (I k) (hRo aH 0) s0 s1 s2 s3 s4) (wTX cC aT vT0 vT1 z2 z3 z4 z5) (wRR aU w0 w1) (wMR aJ aN.1 vJ0 vJ1) (wMP cI aN vN0 vN1 vN2) (wRE aE y0 y1 y2 y3 y4 y5 y6) (wLY cI aY vY0 vY1 vY2 vY3 vY4 vY5 vY6 vY7 vY8 vY9 vY10) (wMD cC cI aD (cz WW) (cz VV) (I k) vD3 vD4 vD5 vD6 vD7 vD8 vD9 vD10 vD11 vD12 vD13 vD14 (cz w) vD16 vD17 vD18 vD19 vD20 vD21 vD22)
  have hp2 := lw_pm1 (wVC aV aS aH.1 aT.1 aU aJ aE aY.1) (wSC aS aL.1 aR.1 aM.1) (wBK cI aL vL0 vL1 vL2 vL3) (wBK cI aR vR0 vR1 vR2 vR3) (wMP cI aM vM0 vM1 vM2) (wHF cI cS aH (I k) (hRo aH 0) s0 s1 s2 s3 s4) (wTX cC aT vT0 vT1 z2 z3 z4 z5) (wRR aU w0 w1) (wMR aJ aN.1 vJ0 vJ1) (wMP cI aN vN0 vN1 vN2) (wRE aE y0 y1 y2 y3 y4 y5 y6) (wLY cI aY vY0 vY1 vY2 vY3 vY4 vY5 vY6 vY7 vY8 vY9 vY10) (wMD cC cI aD (cz WW) (cz VV) (I k) vD3 vD4 e5 e6 e7 vD8 vD9 vD10 vD11 vD12 e13 e14 (cz w) vD16 vD17 vD18 vD19 vD20 vD21 vD22)
  refine kciwQ (res := a) (ws' := (wAll cI cC cS aV aS aL aR aM aH (hRo aH 0) aT aU aJ aN aE aY aD vL0 vL1 vL2 vL3 vR0 vR1 vR2 vR3 vM0 vM1 vM2 (I k) s0 s1 s2 s3 s4 vT0 vT1 z2 z3 z4 z5 w0 w1 vJ0 vJ1 vN0 vN1 vN2 y0 y1 y2 y3 y4 y5 y6 vY0 vY1 vY2 vY3 vY4 vY5 vY6 vY7 vY8 vY9 vY10 (cz WW) (cz VV) (I k) vD3 vD4 e5 e6 e7 vD8 vD9 vD10 vD11 vD12 e13 e14 (cz w) vD16 vD17 vD18 vD19 vD20 vD21 vD22)) hp hp2.symm (va_runV (As := [.int (xs (nI i + (1 : Int32)).toNatClampNeg), .int (xs (nI i + (2 : Int32)).toNatClampNeg)]) (rest := [.int a]) ⟨hx, hb, hml, hown, hts⟩ (kX10_refer l D cI cC cS aD (cz WW) (cz VV) (I k) vD3 vD4 vD5 vD6 vD7 vD8 vD9 vD10 vD11 vD12 vD13 vD14 (cz w) vD16 vD17 vD18 vD19 vD20 vD21 vD22 (xs (nI i + (1 : Int32)).toNatClampNeg) (xs (nI i + (2 : Int32)).toNatClampNeg) H.size hR) (cwV 2 hts gL_law_X10_refer rfl rfl rfl (by decide +kernel) ⟨Nat.le_of_ble_eq_true rfl, Nat.le_of_ble_eq_true rfl⟩) (kpreVQ hp hK hN hP hD 10 rfl rfl) rfl rfl hl.1 rfl (lv_room (Nat.le_of_ble_eq_true rfl)) dL_law_485 ⟨Nat.le_of_ble_eq_true rfl, Nat.le_of_ble_eq_true rfl⟩) hP hD hS hA (fun H locs hP hD hS => ?_)
  clear hp2
  clear hp
  refine lv_icmp_eq (tgt := 777) hx hb dL_law_488 (by decide) (fun _ => ?_) (fun g => absurd rfl g)
  exact kk _ _ (lw_fin (r := 0) hP hD hS hSt (Or.inl ⟨rfl, hHi⟩) hTx hWd hZt)
set_option maxRecDepth 100000 in
set_option maxHeartbeats 8000000 in
theorem lw_c13 (hx : p.tables.exec = Jvm.exec) (hb : c.code = code) (hml : c.maxLocals = 4) (hown : s.vm.findClass RL = some m.cls) (hts : ∀ w ∈ wsL_law, w.before #[Value.ref b] s = true) (hX : va_X b L xs s s.heap) (hbl : b < s.heap.size) (hK : va_K D vwCl (kTy cI cC cS) s) (hN : kN s) (hI : lwI D cI cC cS s aV aD H locs) (hL : L ≤ 2560) (hi : i + 5 ≤ L) (hl : lv_has ls 4 [(0, .ref b), (1, .ref aV), (2, .ref aD.1), (3, .int (nI i))]) (kk : ∀ (H : Heap) (locs : List Loc), lwI D cI cC cS s aV aD H locs → W p l e room_1 s m #[Value.ref b] below meth c H locs 99 8985 Q (F0 m 777 ls [])) : W p l e room_1 s m #[Value.ref b] below meth c H locs 99 8985 Q (F0 m 493 ls []) := by
  have hA : ∀ q : Nat, s.heap.size ≤ q → (fun q : Nat => s.heap.size ≤ q) q := fun _ h => h
  have hbA : ¬ (fun q : Nat => s.heap.size ≤ q) b := Nat.not_le.mpr hbl
  refine hI _ (fun aS aL aR aM aH aT aU aJ aN aE aY vL0 vL1 vL2 vL3 vR0 vR1 vR2 vR3 vM0 vM1 vM2 k s0 s1 s2 s3 s4 vT0 vT1 vT2 vT3 vT4 vT5 vU0 vU1 vJ0 vJ1 vN0 vN1 vN2 vE0 vE1 vE2 vE3 vE4 vE5 vE6 vY0 vY1 vY2 vY3 vY4 vY5 vY6 vY7 vY8 vY9 vY10 WW VV vD3 vD4 vD5 vD6 vD7 vD8 vD9 vD10 vD11 vD12 vD13 vD14 w vD16 vD17 vD18 vD19 vD20 vD21 vD22 ph hh hP hD hS hSt hHi hTx hWd hZt => ?_)
  have hj1 : vp_in (nI i + (1 : Int32)) L := lw_in (i := i) (j := 1) (by omega) hL
  have hj2 : vp_in (nI i + (2 : Int32)) L := lw_in (i := i) (j := 2) (by omega) hL
  have hj3 : vp_in (nI i + (3 : Int32)) L := lw_in (i := i) (j := 3) (by omega) hL
  obtain ⟨a, hC, hR⟩ := e_beside hSt (xs (nI i + (1 : Int32)).toNatClampNeg) (xs (nI i + (2 : Int32)).toNatClampNeg) (xs (nI i + (3 : Int32)).toNatClampNeg)
  refine lv_aload_n hx hb dL_law_493 rfl (lv_at hl 1 rfl) ?_
  refine lv_aload_n hx hb dL_law_494 rfl (lv_at hl 0 rfl) ?_
  refine lv_iload_n hx hb dL_law_495 rfl (lv_at hl 3 rfl) ?_
  refine lv_iconst (v := (1 : Int32)) hx hb dL_law_496 (by decide) ?_
  refine lv_iadd hx hb dL_law_497 ?_
  refine va_sld hx hb hX hbl hbA hS hj1 dL_law_498 ?_
  refine lv_aload_n hx hb dL_law_499 rfl (lv_at hl 0 rfl) ?_
  refine lv_iload_n hx hb dL_law_500 rfl (lv_at hl 3 rfl) ?_
  refine lv_iconst (v := (2 : Int32)) hx hb dL_law_501 (by decide) ?_
  refine lv_iadd hx hb dL_law_502 ?_
  refine va_sld hx hb hX hbl hbA hS hj2 dL_law_503 ?_
  refine lv_aload_n hx hb dL_law_504 rfl (lv_at hl 0 rfl) ?_
  refine lv_iload_n hx hb dL_law_505 rfl (lv_at hl 3 rfl) ?_
  refine lv_iconst (v := (3 : Int32)) hx hb dL_law_506 (by decide) ?_
  refine lv_iadd hx hb dL_law_507 ?_
  refine va_sld hx hb hX hbl hbA hS hj3 dL_law_508 ?_
  have hp := lw_pm5 (wVC aV aS aH.1 aT.1 aU aJ aE aY.1) (wSC aS aL.1 aR.1 aM.1) (wBK cI aL vL0 vL1 vL2 vL3) (wBK cI aR vR0 vR1 vR2 vR3) (wMP cI aM vM0 vM1 vM2) (wHF cI cS aH (I k) (hRo aH 0) s0 s1 s2 s3 s4) (wTX cC aT vT0 vT1 vT2 vT3 vT4 vT5) (wRR aU vU0 vU1) (wMR aJ aN.1 vJ0 vJ1) (wMP cI aN vN0 vN1 vN2) (wRE aE vE0 vE1 vE2 vE3 vE4 vE5 vE6) (wLY cI aY vY0 vY1 vY2 vY3 vY4 vY5 vY6 vY7 vY8 vY9 vY10) (wMD cC cI aD (cz WW) (cz VV) (I k) vD3 vD4 vD5 vD6 vD7 vD8 vD9 vD10 vD11 vD12 vD13 vD14 (cz w) vD16 vD17 vD18 vD19 vD20 vD21 vD22)
  refine kcirQ (res := a) hp (va_runV (As := [.int (xs (nI i + (1 : Int32)).toNatClampNeg), .int (xs (nI i + (2 : Int32)).toNatClampNeg), .int (xs (nI i + (3 : Int32)).toNatClampNeg)]) (rest := []) ⟨hx, hb, hml, hown, hts⟩ (kX9_beside l D cI cC cS aV aH.1 aT.1 aU aJ aE aY.1 aS aL vL0 vL1 vL2 vL3 aR vR0 vR1 vR2 vR3 aM vM0 vM1 vM2 (xs (nI i + (1 : Int32)).toNatClampNeg) (xs (nI i + (2 : Int32)).toNatClampNeg) (xs (nI i + (3 : Int32)).toNatClampNeg) H.size hC) (cwV 3 hts gL_law_X9_beside rfl rfl rfl (by decide +kernel) ⟨Nat.le_of_ble_eq_true rfl, Nat.le_of_ble_eq_true rfl⟩) (kpreVQ hp hK hN hP hD 9 rfl rfl) rfl rfl hl.1 rfl (lv_room (Nat.le_of_ble_eq_true rfl)) dL_law_509 ⟨Nat.le_of_ble_eq_true rfl, Nat.le_of_ble_eq_true rfl⟩) hP hD hS hA (fun H locs hP hS => ?_)
  clear hp
  refine lv_aload_n hx hb dL_law_512 rfl (lv_at hl 2 rfl) ?_
  refine lv_aload_n hx hb dL_law_513 rfl (lv_at hl 0 rfl) ?_
  refine lv_iload_n hx hb dL_law_514 rfl (lv_at hl 3 rfl) ?_
  refine lv_iconst (v := (1 : Int32)) hx hb dL_law_515 (by decide) ?_
  refine lv_iadd hx hb dL_law_516 ?_
  refine va_sld hx hb hX hbl hbA hS hj1 dL_law_517 ?_
  refine lv_aload_n hx hb dL_law_518 rfl (lv_at hl 0 rfl) ?_
  refine lv_iload_n hx hb dL_law_519 rfl (lv_at hl 3 rfl) ?_
  refine lv_iconst (v := (2 : Int32)) hx hb dL_law_520 (by decide) ?_
  refine lv_iadd hx hb dL_law_521 ?_
  refine va_sld hx hb hX hbl hbA hS hj2 dL_law_522 ?_
  refine lv_aload_n hx hb dL_law_523 rfl (lv_at hl 0 rfl) ?_
  refine lv_iload_n hx hb dL_law_524 rfl (lv_at hl 3 rfl) ?_
  refine lv_iconst (v := (3 : Int32)) hx hb dL_law_525 (by decide) ?_
  refine lv_iadd hx hb dL_law_526 ?_
  refine va_sld hx hb hX hbl hbA hS hj3 dL_law_527 ?_
  have hp := lw_pm1 (wVC aV aS aH.1 aT.1 aU aJ aE aY.1) (wSC aS aL.1 aR.1 aM.1) (wBK cI aL vL0 vL1 vL2 vL3) (wBK cI aR vR0 vR1 vR2 vR3) (wMP cI aM vM0 vM1 vM2) (wHF cI cS aH (I k) (hRo aH 0) s0 s1 s2 s3 s4) (wTX cC aT vT0 vT1 vT2 vT3 vT4 vT5) (wRR aU vU0 vU1) (wMR aJ aN.1 vJ0 vJ1) (wMP cI aN vN0 vN1 vN2) (wRE aE vE0 vE1 vE2 vE3 vE4 vE5 vE6) (wLY cI aY vY0 vY1 vY2 vY3 vY4 vY5 vY6 vY7 vY8 vY9 vY10) (wMD cC cI aD (cz WW) (cz VV) (I k) vD3 vD4 vD5 vD6 vD7 vD8 vD9 vD10 vD11 vD12 vD13 vD14 (cz w) vD16 vD17 vD18 vD19 vD20 vD21 vD22)
  refine kcirQ (res := a) hp (va_runV (As := [.int (xs (nI i + (1 : Int32)).toNatClampNeg), .int (xs (nI i + (2 : Int32)).toNatClampNeg), .int (xs (nI i + (3 : Int32)).toNatClampNeg)]) (rest := [.int a]) ⟨hx, hb, hml, hown, hts⟩ (kX10_beside l D cI cC cS aD (cz WW) (cz VV) (I k) vD3 vD4 vD5 vD6 vD7 vD8 vD9 vD10 vD11 vD12 vD13 vD14 (cz w) vD16 vD17 vD18 vD19 vD20 vD21 vD22 (xs (nI i + (1 : Int32)).toNatClampNeg) (xs (nI i + (2 : Int32)).toNatClampNeg) (xs (nI i + (3 : Int32)).toNatClampNeg) H.size hR) (cwV 3 hts gL_law_X10_beside rfl rfl rfl (by decide +kernel) ⟨Nat.le_of_ble_eq_true rfl, Nat.le_of_ble_eq_true rfl⟩) (kpreVQ hp hK hN hP hD 10 rfl rfl) rfl rfl hl.1 rfl (lv_room (Nat.le_of_ble_eq_true rfl)) dL_law_528 ⟨Nat.le_of_ble_eq_true rfl, Nat.le_of_ble_eq_true rfl⟩) hP hD hS hA (fun H locs hP hS => ?_)
  clear hp
  refine lv_icmp_eq (tgt := 777) hx hb dL_law_531 (by decide) (fun _ => ?_) (fun g => absurd rfl g)
  exact kk _ _ (lw_fin (r := 0) hP hD hS hSt (Or.inl ⟨rfl, hHi⟩) hTx hWd hZt)
set_option maxRecDepth 100000 in
set_option maxHeartbeats 8000000 in
theorem lw_c14 (hx : p.tables.exec = Jvm.exec) (hb : c.code = code) (hml : c.maxLocals = 4) (hown : s.vm.findClass RL = some m.cls) (hts : ∀ w ∈ wsL_law, w.before #[Value.ref b] s = true) (hX : va_X b L xs s s.heap) (hbl : b < s.heap.size) (hK : va_K D vwCl (kTy cI cC cS) s) (hN : kN s) (hI : lwI D cI cC cS s aV aD H locs) (hL : L ≤ 2560) (hi : i + 5 ≤ L) (hl : lv_has ls 4 [(0, .ref b), (1, .ref aV), (2, .ref aD.1), (3, .int (nI i))]) (kk : ∀ (H : Heap) (locs : List Loc), lwI D cI cC cS s aV aD H locs → W p l e room_1 s m #[Value.ref b] below meth c H locs 99 8985 Q (F0 m 777 ls [])) : W p l e room_1 s m #[Value.ref b] below meth c H locs 99 8985 Q (F0 m 536 ls []) := by
  have hA : ∀ q : Nat, s.heap.size ≤ q → (fun q : Nat => s.heap.size ≤ q) q := fun _ h => h
  have hbA : ¬ (fun q : Nat => s.heap.size ≤ q) b := Nat.not_le.mpr hbl
  refine hI _ (fun aS aL aR aM aH aT aU aJ aN aE aY vL0 vL1 vL2 vL3 vR0 vR1 vR2 vR3 vM0 vM1 vM2 k s0 s1 s2 s3 s4 vT0 vT1 vT2 vT3 vT4 vT5 vU0 vU1 vJ0 vJ1 vN0 vN1 vN2 vE0 vE1 vE2 vE3 vE4 vE5 vE6 vY0 vY1 vY2 vY3 vY4 vY5 vY6 vY7 vY8 vY9 vY10 WW VV vD3 vD4 vD5 vD6 vD7 vD8 vD9 vD10 vD11 vD12 vD13 vD14 w vD16 vD17 vD18 vD19 vD20 vD21 vD22 ph hh hP hD hS hSt hHi hTx hWd hZt => ?_)
  have hj1 : vp_in (nI i + (1 : Int32)) L := lw_in (i := i) (j := 1) (by omega) hL
  have hj2 : vp_in (nI i + (2 : Int32)) L := lw_in (i := i) (j := 2) (by omega) hL
  obtain ⟨a, z0, z1, w2, hC, hR, hWd2⟩ := e_setWidth hWd (xs (nI i + (1 : Int32)).toNatClampNeg) (xs (nI i + (2 : Int32)).toNatClampNeg)
  refine lv_aload_n hx hb dL_law_536 rfl (lv_at hl 1 rfl) ?_
  refine lv_aload_n hx hb dL_law_537 rfl (lv_at hl 0 rfl) ?_
  refine lv_iload_n hx hb dL_law_538 rfl (lv_at hl 3 rfl) ?_
  refine lv_iconst (v := (1 : Int32)) hx hb dL_law_539 (by decide) ?_
  refine lv_iadd hx hb dL_law_540 ?_
  refine va_sld hx hb hX hbl hbA hS hj1 dL_law_541 ?_
  refine lv_aload_n hx hb dL_law_542 rfl (lv_at hl 0 rfl) ?_
  refine lv_iload_n hx hb dL_law_543 rfl (lv_at hl 3 rfl) ?_
  refine lv_iconst (v := (2 : Int32)) hx hb dL_law_544 (by decide) ?_
  refine lv_iadd hx hb dL_law_545 ?_
  refine va_sld hx hb hX hbl hbA hS hj2 dL_law_546 ?_
  have hp := lw_pm6 (wVC aV aS aH.1 aT.1 aU aJ aE aY.1) (wSC aS aL.1 aR.1 aM.1) (wBK cI aL vL0 vL1 vL2 vL3) (wBK cI aR vR0 vR1 vR2 vR3) (wMP cI aM vM0 vM1 vM2) (wHF cI cS aH (I k) (hRo aH 0) s0 s1 s2 s3 s4) (wTX cC aT vT0 vT1 vT2 vT3 vT4 vT5) (wRR aU vU0 vU1) (wMR aJ aN.1 vJ0 vJ1) (wMP cI aN vN0 vN1 vN2) (wRE aE vE0 vE1 vE2 vE3 vE4 vE5 vE6) (wLY cI aY vY0 vY1 vY2 vY3 vY4 vY5 vY6 vY7 vY8 vY9 vY10) (wMD cC cI aD (cz WW) (cz VV) (I k) vD3 vD4 vD5 vD6 vD7 vD8 vD9 vD10 vD11 vD12 vD13 vD14 (cz w) vD16 vD17 vD18 vD19 vD20 vD21 vD22)
  have hp2 := lw_pm6 (wVC aV aS aH.1 aT.1 aU aJ aE aY.1) (wSC aS aL.1 aR.1 aM.1) (wBK cI aL vL0 vL1 vL2 vL3) (wBK cI aR vR0 vR1 vR2 vR3) (wMP cI aM vM0 vM1 vM2) (wHF cI cS aH (I k) (hRo aH 0) s0 s1 s2 s3 s4) (wTX cC aT vT0 vT1 vT2 vT3 vT4 vT5) (wRR aU vU0 vU1) (wMR aJ aN.1 vJ0 vJ1) (wMP cI aN vN0 vN1 vN2) (wRE aE vE0 vE1 vE2 vE3 vE4 vE5 vE6) (wLY cI aY z0 z1 vY2 vY3 vY4 vY5 vY6 vY7 vY8 vY9 vY10) (wMD cC cI aD (cz WW) (cz VV) (I k) vD3 vD4 vD5 vD6 vD7 vD8 vD9 vD10 vD11 vD12 vD13 vD14 (cz w) vD16 vD17 vD18 vD19 vD20 vD21 vD22)
  refine kciwQ (res := a) (ws' := (wAll cI cC cS aV aS aL aR aM aH (hRo aH 0) aT aU aJ aN aE aY aD vL0 vL1 vL2 vL3 vR0 vR1 vR2 vR3 vM0 vM1 vM2 (I k) s0 s1 s2 s3 s4 vT0 vT1 vT2 vT3 vT4 vT5 vU0 vU1 vJ0 vJ1 vN0 vN1 vN2 vE0 vE1 vE2 vE3 vE4 vE5 vE6 z0 z1 vY2 vY3 vY4 vY5 vY6 vY7 vY8 vY9 vY10 (cz WW) (cz VV) (I k) vD3 vD4 vD5 vD6 vD7 vD8 vD9 vD10 vD11 vD12 vD13 vD14 (cz w) vD16 vD17 vD18 vD19 vD20 vD21 vD22)) hp hp2.symm (va_runV (As := [.int (xs (nI i + (1 : Int32)).toNatClampNeg), .int (xs (nI i + (2 : Int32)).toNatClampNeg)]) (rest := []) ⟨hx, hb, hml, hown, hts⟩ (kX9_setWidth l D cI cC cS aV aS aH.1 aT.1 aU aJ aE aY vY0 vY1 vY2 vY3 vY4 vY5 vY6 vY7 vY8 vY9 vY10 (xs (nI i + (1 : Int32)).toNatClampNeg) (xs (nI i + (2 : Int32)).toNatClampNeg) H.size hC) (cwV 2 hts gL_law_X9_setWidth rfl rfl rfl (by decide +kernel) ⟨Nat.le_of_ble_eq_true rfl, Nat.le_of_ble_eq_true rfl⟩) (kpreVQ hp hK hN hP hD 9 rfl rfl) rfl rfl hl.1 rfl (lv_room (Nat.le_of_ble_eq_true rfl)) dL_law_547 ⟨Nat.le_of_ble_eq_true rfl, Nat.le_of_ble_eq_true rfl⟩) hP hD hS hA (fun H locs hP hD hS => ?_)
  clear hp2
  clear hp
  refine lv_aload_n hx hb dL_law_550 rfl (lv_at hl 2 rfl) ?_
  refine lv_aload_n hx hb dL_law_551 rfl (lv_at hl 0 rfl) ?_
  refine lv_iload_n hx hb dL_law_552 rfl (lv_at hl 3 rfl) ?_
  refine lv_iconst (v := (1 : Int32)) hx hb dL_law_553 (by decide) ?_
  refine lv_iadd hx hb dL_law_554 ?_
  refine va_sld hx hb hX hbl hbA hS hj1 dL_law_555 ?_
  refine lv_aload_n hx hb dL_law_556 rfl (lv_at hl 0 rfl) ?_
  refine lv_iload_n hx hb dL_law_557 rfl (lv_at hl 3 rfl) ?_
  refine lv_iconst (v := (2 : Int32)) hx hb dL_law_558 (by decide) ?_
  refine lv_iadd hx hb dL_law_559 ?_
  refine va_sld hx hb hX hbl hbA hS hj2 dL_law_560 ?_
  have hp := lw_pm1 (wVC aV aS aH.1 aT.1 aU aJ aE aY.1) (wSC aS aL.1 aR.1 aM.1) (wBK cI aL vL0 vL1 vL2 vL3) (wBK cI aR vR0 vR1 vR2 vR3) (wMP cI aM vM0 vM1 vM2) (wHF cI cS aH (I k) (hRo aH 0) s0 s1 s2 s3 s4) (wTX cC aT vT0 vT1 vT2 vT3 vT4 vT5) (wRR aU vU0 vU1) (wMR aJ aN.1 vJ0 vJ1) (wMP cI aN vN0 vN1 vN2) (wRE aE vE0 vE1 vE2 vE3 vE4 vE5 vE6) (wLY cI aY z0 z1 vY2 vY3 vY4 vY5 vY6 vY7 vY8 vY9 vY10) (wMD cC cI aD (cz WW) (cz VV) (I k) vD3 vD4 vD5 vD6 vD7 vD8 vD9 vD10 vD11 vD12 vD13 vD14 (cz w) vD16 vD17 vD18 vD19 vD20 vD21 vD22)
  have hp2 := lw_pm1 (wVC aV aS aH.1 aT.1 aU aJ aE aY.1) (wSC aS aL.1 aR.1 aM.1) (wBK cI aL vL0 vL1 vL2 vL3) (wBK cI aR vR0 vR1 vR2 vR3) (wMP cI aM vM0 vM1 vM2) (wHF cI cS aH (I k) (hRo aH 0) s0 s1 s2 s3 s4) (wTX cC aT vT0 vT1 vT2 vT3 vT4 vT5) (wRR aU vU0 vU1) (wMR aJ aN.1 vJ0 vJ1) (wMP cI aN vN0 vN1 vN2) (wRE aE vE0 vE1 vE2 vE3 vE4 vE5 vE6) (wLY cI aY z0 z1 vY2 vY3 vY4 vY5 vY6 vY7 vY8 vY9 vY10) (wMD cC cI aD (cz WW) (cz VV) (I k) vD3 vD4 vD5 vD6 vD7 vD8 vD9 vD10 vD11 vD12 vD13 vD14 (cz w2) vD16 vD17 vD18 vD19 vD20 vD21 vD22)
  refine kciwQ (res := a) (ws' := (wAll cI cC cS aV aS aL aR aM aH (hRo aH 0) aT aU aJ aN aE aY aD vL0 vL1 vL2 vL3 vR0 vR1 vR2 vR3 vM0 vM1 vM2 (I k) s0 s1 s2 s3 s4 vT0 vT1 vT2 vT3 vT4 vT5 vU0 vU1 vJ0 vJ1 vN0 vN1 vN2 vE0 vE1 vE2 vE3 vE4 vE5 vE6 z0 z1 vY2 vY3 vY4 vY5 vY6 vY7 vY8 vY9 vY10 (cz WW) (cz VV) (I k) vD3 vD4 vD5 vD6 vD7 vD8 vD9 vD10 vD11 vD12 vD13 vD14 (cz w2) vD16 vD17 vD18 vD19 vD20 vD21 vD22)) hp hp2.symm (va_runV (As := [.int (xs (nI i + (1 : Int32)).toNatClampNeg), .int (xs (nI i + (2 : Int32)).toNatClampNeg)]) (rest := [.int a]) ⟨hx, hb, hml, hown, hts⟩ (kX10_setWidth l D cI cC cS aD (cz WW) (cz VV) (I k) vD3 vD4 vD5 vD6 vD7 vD8 vD9 vD10 vD11 vD12 vD13 vD14 (cz w) vD16 vD17 vD18 vD19 vD20 vD21 vD22 (xs (nI i + (1 : Int32)).toNatClampNeg) (xs (nI i + (2 : Int32)).toNatClampNeg) H.size hR) (cwV 2 hts gL_law_X10_setWidth rfl rfl rfl (by decide +kernel) ⟨Nat.le_of_ble_eq_true rfl, Nat.le_of_ble_eq_true rfl⟩) (kpreVQ hp hK hN hP hD 10 rfl rfl) rfl rfl hl.1 rfl (lv_room (Nat.le_of_ble_eq_true rfl)) dL_law_561 ⟨Nat.le_of_ble_eq_true rfl, Nat.le_of_ble_eq_true rfl⟩) hP hD hS hA (fun H locs hP hD hS => ?_)
  clear hp2
  clear hp
  refine lv_icmp_eq (tgt := 777) hx hb dL_law_564 (by decide) (fun _ => ?_) (fun g => absurd rfl g)
  exact kk _ _ (lw_fin (r := 0) hP hD hS hSt (Or.inl ⟨rfl, hHi⟩) hTx hWd2 hZt)
set_option maxRecDepth 100000 in
set_option maxHeartbeats 8000000 in
theorem lw_c15 (hx : p.tables.exec = Jvm.exec) (hb : c.code = code) (hml : c.maxLocals = 4) (hown : s.vm.findClass RL = some m.cls) (hts : ∀ w ∈ wsL_law, w.before #[Value.ref b] s = true) (hX : va_X b L xs s s.heap) (hbl : b < s.heap.size) (hK : va_K D vwCl (kTy cI cC cS) s) (hN : kN s) (hI : lwI D cI cC cS s aV aD H locs) (hL : L ≤ 2560) (hi : i + 5 ≤ L) (hl : lv_has ls 4 [(0, .ref b), (1, .ref aV), (2, .ref aD.1), (3, .int (nI i))]) (kk : ∀ (H : Heap) (locs : List Loc), lwI D cI cC cS s aV aD H locs → W p l e room_1 s m #[Value.ref b] below meth c H locs 99 8985 Q (F0 m 777 ls [])) : W p l e room_1 s m #[Value.ref b] below meth c H locs 99 8985 Q (F0 m 569 ls []) := by
  have hA : ∀ q : Nat, s.heap.size ≤ q → (fun q : Nat => s.heap.size ≤ q) q := fun _ h => h
  have hbA : ¬ (fun q : Nat => s.heap.size ≤ q) b := Nat.not_le.mpr hbl
  refine hI _ (fun aS aL aR aM aH aT aU aJ aN aE aY vL0 vL1 vL2 vL3 vR0 vR1 vR2 vR3 vM0 vM1 vM2 k s0 s1 s2 s3 s4 vT0 vT1 vT2 vT3 vT4 vT5 vU0 vU1 vJ0 vJ1 vN0 vN1 vN2 vE0 vE1 vE2 vE3 vE4 vE5 vE6 vY0 vY1 vY2 vY3 vY4 vY5 vY6 vY7 vY8 vY9 vY10 WW VV vD3 vD4 vD5 vD6 vD7 vD8 vD9 vD10 vD11 vD12 vD13 vD14 w vD16 vD17 vD18 vD19 vD20 vD21 vD22 ph hh hP hD hS hSt hHi hTx hWd hZt => ?_)
  have hj1 : vp_in (nI i + (1 : Int32)) L := lw_in (i := i) (j := 1) (by omega) hL
  have hj2 : vp_in (nI i + (2 : Int32)) L := lw_in (i := i) (j := 2) (by omega) hL
  obtain ⟨a, z2, z3, e6, e7, p2, h2, hC, hR, hZt2⟩ := e_setHeights hZt (xs (nI i + (1 : Int32)).toNatClampNeg) (xs (nI i + (2 : Int32)).toNatClampNeg)
  refine lv_aload_n hx hb dL_law_569 rfl (lv_at hl 1 rfl) ?_
  refine lv_aload_n hx hb dL_law_570 rfl (lv_at hl 0 rfl) ?_
  refine lv_iload_n hx hb dL_law_571 rfl (lv_at hl 3 rfl) ?_
  refine lv_iconst (v := (1 : Int32)) hx hb dL_law_572 (by decide) ?_
  refine lv_iadd hx hb dL_law_573 ?_
  refine va_sld hx hb hX hbl hbA hS hj1 dL_law_574 ?_
  refine lv_aload_n hx hb dL_law_575 rfl (lv_at hl 0 rfl) ?_
  refine lv_iload_n hx hb dL_law_576 rfl (lv_at hl 3 rfl) ?_
  refine lv_iconst (v := (2 : Int32)) hx hb dL_law_577 (by decide) ?_
  refine lv_iadd hx hb dL_law_578 ?_
  refine va_sld hx hb hX hbl hbA hS hj2 dL_law_579 ?_
  have hp := lw_pm6 (wVC aV aS aH.1 aT.1 aU aJ aE aY.1) (wSC aS aL.1 aR.1 aM.1) (wBK cI aL vL0 vL1 vL2 vL3) (wBK cI aR vR0 vR1 vR2 vR3) (wMP cI aM vM0 vM1 vM2) (wHF cI cS aH (I k) (hRo aH 0) s0 s1 s2 s3 s4) (wTX cC aT vT0 vT1 vT2 vT3 vT4 vT5) (wRR aU vU0 vU1) (wMR aJ aN.1 vJ0 vJ1) (wMP cI aN vN0 vN1 vN2) (wRE aE vE0 vE1 vE2 vE3 vE4 vE5 vE6) (wLY cI aY vY0 vY1 vY2 vY3 vY4 vY5 vY6 vY7 vY8 vY9 vY10) (wMD cC cI aD (cz WW) (cz VV) (I k) vD3 vD4 vD5 vD6 vD7 vD8 vD9 vD10 vD11 vD12 vD13 vD14 (cz w) vD16 vD17 vD18 vD19 vD20 vD21 vD22)
  have hp2 := lw_pm6 (wVC aV aS aH.1 aT.1 aU aJ aE aY.1) (wSC aS aL.1 aR.1 aM.1) (wBK cI aL vL0 vL1 vL2 vL3) (wBK cI aR vR0 vR1 vR2 vR3) (wMP cI aM vM0 vM1 vM2) (wHF cI cS aH (I k) (hRo aH 0) s0 s1 s2 s3 s4) (wTX cC aT vT0 vT1 vT2 vT3 vT4 vT5) (wRR aU vU0 vU1) (wMR aJ aN.1 vJ0 vJ1) (wMP cI aN vN0 vN1 vN2) (wRE aE vE0 vE1 vE2 vE3 vE4 vE5 vE6) (wLY cI aY vY0 vY1 z2 z3 vY4 vY5 vY6 vY7 vY8 vY9 vY10) (wMD cC cI aD (cz WW) (cz VV) (I k) vD3 vD4 vD5 vD6 vD7 vD8 vD9 vD10 vD11 vD12 vD13 vD14 (cz w) vD16 vD17 vD18 vD19 vD20 vD21 vD22)
  refine kciwQ (res := a) (ws' := (wAll cI cC cS aV aS aL aR aM aH (hRo aH 0) aT aU aJ aN aE aY aD vL0 vL1 vL2 vL3 vR0 vR1 vR2 vR3 vM0 vM1 vM2 (I k) s0 s1 s2 s3 s4 vT0 vT1 vT2 vT3 vT4 vT5 vU0 vU1 vJ0 vJ1 vN0 vN1 vN2 vE0 vE1 vE2 vE3 vE4 vE5 vE6 vY0 vY1 z2 z3 vY4 vY5 vY6 vY7 vY8 vY9 vY10 (cz WW) (cz VV) (I k) vD3 vD4 vD5 vD6 vD7 vD8 vD9 vD10 vD11 vD12 vD13 vD14 (cz w) vD16 vD17 vD18 vD19 vD20 vD21 vD22)) hp hp2.symm (va_runV (As := [.int (xs (nI i + (1 : Int32)).toNatClampNeg), .int (xs (nI i + (2 : Int32)).toNatClampNeg)]) (rest := []) ⟨hx, hb, hml, hown, hts⟩ (kX9_setHeights l D cI cC cS aV aS aH.1 aT.1 aU aJ aE aY vY0 vY1 vY2 vY3 vY4 vY5 vY6 vY7 vY8 vY9 vY10 (xs (nI i + (1 : Int32)).toNatClampNeg) (xs (nI i + (2 : Int32)).toNatClampNeg) H.size hC) (cwV 2 hts gL_law_X9_setHeights rfl rfl rfl (by decide +kernel) ⟨Nat.le_of_ble_eq_true rfl, Nat.le_of_ble_eq_true rfl⟩) (kpreVQ hp hK hN hP hD 9 rfl rfl) rfl rfl hl.1 rfl (lv_room (Nat.le_of_ble_eq_true rfl)) dL_law_580 ⟨Nat.le_of_ble_eq_true rfl, Nat.le_of_ble_eq_true rfl⟩) hP hD hS hA (fun H locs hP hD hS => ?_)
  clear hp2
  clear hp
  refine lv_aload_n hx hb dL_law_583 rfl (lv_at hl 2 rfl) ?_
  refine lv_aload_n hx hb dL_law_584 rfl (lv_at hl 0 rfl) ?_
  refine lv_iload_n hx hb dL_law_585 rfl (lv_at hl 3 rfl) ?_
  refine lv_iconst (v := (1 : Int32)) hx hb dL_law_586 (by decide) ?_
  refine lv_iadd hx hb dL_law_587 ?_
  refine va_sld hx hb hX hbl hbA hS hj1 dL_law_588 ?_
  refine lv_aload_n hx hb dL_law_589 rfl (lv_at hl 0 rfl) ?_
  refine lv_iload_n hx hb dL_law_590 rfl (lv_at hl 3 rfl) ?_
  refine lv_iconst (v := (2 : Int32)) hx hb dL_law_591 (by decide) ?_
  refine lv_iadd hx hb dL_law_592 ?_
  refine va_sld hx hb hX hbl hbA hS hj2 dL_law_593 ?_
  have hp := lw_pm1 (wVC aV aS aH.1 aT.1 aU aJ aE aY.1) (wSC aS aL.1 aR.1 aM.1) (wBK cI aL vL0 vL1 vL2 vL3) (wBK cI aR vR0 vR1 vR2 vR3) (wMP cI aM vM0 vM1 vM2) (wHF cI cS aH (I k) (hRo aH 0) s0 s1 s2 s3 s4) (wTX cC aT vT0 vT1 vT2 vT3 vT4 vT5) (wRR aU vU0 vU1) (wMR aJ aN.1 vJ0 vJ1) (wMP cI aN vN0 vN1 vN2) (wRE aE vE0 vE1 vE2 vE3 vE4 vE5 vE6) (wLY cI aY vY0 vY1 z2 z3 vY4 vY5 vY6 vY7 vY8 vY9 vY10) (wMD cC cI aD (cz WW) (cz VV) (I k) vD3 vD4 vD5 vD6 vD7 vD8 vD9 vD10 vD11 vD12 vD13 vD14 (cz w) vD16 vD17 vD18 vD19 vD20 vD21 vD22)
  have hp2 := lw_pm1 (wVC aV aS aH.1 aT.1 aU aJ aE aY.1) (wSC aS aL.1 aR.1 aM.1) (wBK cI aL vL0 vL1 vL2 vL3) (wBK cI aR vR0 vR1 vR2 vR3) (wMP cI aM vM0 vM1 vM2) (wHF cI cS aH (I k) (hRo aH 0) s0 s1 s2 s3 s4) (wTX cC aT vT0 vT1 vT2 vT3 vT4 vT5) (wRR aU vU0 vU1) (wMR aJ aN.1 vJ0 vJ1) (wMP cI aN vN0 vN1 vN2) (wRE aE vE0 vE1 vE2 vE3 vE4 vE5 vE6) (wLY cI aY vY0 vY1 z2 z3 vY4 vY5 vY6 vY7 vY8 vY9 vY10) (wMD cC cI aD (cz WW) (cz VV) (I k) vD3 vD4 vD5 vD6 vD7 vD8 vD9 vD10 vD11 vD12 vD13 vD14 (cz w) e6 e7 vD18 vD19 vD20 vD21 vD22)
  refine kciwQ (res := a) (ws' := (wAll cI cC cS aV aS aL aR aM aH (hRo aH 0) aT aU aJ aN aE aY aD vL0 vL1 vL2 vL3 vR0 vR1 vR2 vR3 vM0 vM1 vM2 (I k) s0 s1 s2 s3 s4 vT0 vT1 vT2 vT3 vT4 vT5 vU0 vU1 vJ0 vJ1 vN0 vN1 vN2 vE0 vE1 vE2 vE3 vE4 vE5 vE6 vY0 vY1 z2 z3 vY4 vY5 vY6 vY7 vY8 vY9 vY10 (cz WW) (cz VV) (I k) vD3 vD4 vD5 vD6 vD7 vD8 vD9 vD10 vD11 vD12 vD13 vD14 (cz w) e6 e7 vD18 vD19 vD20 vD21 vD22)) hp hp2.symm (va_runV (As := [.int (xs (nI i + (1 : Int32)).toNatClampNeg), .int (xs (nI i + (2 : Int32)).toNatClampNeg)]) (rest := [.int a]) ⟨hx, hb, hml, hown, hts⟩ (kX10_setHeights l D cI cC cS aD (cz WW) (cz VV) (I k) vD3 vD4 vD5 vD6 vD7 vD8 vD9 vD10 vD11 vD12 vD13 vD14 (cz w) vD16 vD17 vD18 vD19 vD20 vD21 vD22 (xs (nI i + (1 : Int32)).toNatClampNeg) (xs (nI i + (2 : Int32)).toNatClampNeg) H.size hR) (cwV 2 hts gL_law_X10_setHeights rfl rfl rfl (by decide +kernel) ⟨Nat.le_of_ble_eq_true rfl, Nat.le_of_ble_eq_true rfl⟩) (kpreVQ hp hK hN hP hD 10 rfl rfl) rfl rfl hl.1 rfl (lv_room (Nat.le_of_ble_eq_true rfl)) dL_law_594 ⟨Nat.le_of_ble_eq_true rfl, Nat.le_of_ble_eq_true rfl⟩) hP hD hS hA (fun H locs hP hD hS => ?_)
  clear hp2
  clear hp
  refine lv_icmp_eq (tgt := 777) hx hb dL_law_597 (by decide) (fun _ => ?_) (fun g => absurd rfl g)
  exact kk _ _ (lw_fin (r := 0) hP hD hS hSt (Or.inl ⟨rfl, hHi⟩) hTx hWd hZt2)
end LAW
