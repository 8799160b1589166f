section LAW
variable {p : Program} {l : Launch} {e : Env} {s : State} {m : MethodId} {below : List Frame} {meth : Method} {c : Code} {D : va_G} {cI cC cS : ClassId} {aV : Nat} {aD : Nat × Nat × Nat × Nat × Nat × Nat × Nat × Nat × Nat × Nat × Nat} {b L i : Nat} {xs : Nat → Int32} {Q : State → Prop} {ls : Array Slot} {H : Heap} {locs : List Loc}
set_option maxRecDepth 100000 in
set_option maxHeartbeats 8000000 in
theorem lw_c16 (hx : p.tables.exec = Jvm.exec) (hb : c.code = code) (hml : c.maxLocals = 4) (hown : s.vm.findClass RL = some m.cls) (hts : ∀ w ∈ wsL_law, w.before #[Value.ref b] s = true) (hX : va_X b L xs s s.heap) (hbl : b < s.heap.size) (hK : va_K D vwCl (kTy cI cC cS) s) (hN : kN s) (hI : lwI D cI cC cS s aV aD H locs) (hL : L ≤ 2560) (hi : i + 5 ≤ L) (hl : lv_has ls 4 [(0, .ref b), (1, .ref aV), (2, .ref aD.1), (3, .int (nI i))]) (kk : ∀ (H : Heap) (locs : List Loc), lwI D cI cC cS s aV aD H locs → W p l e room_1 s m #[Value.ref b] below meth c H locs 99 8985 Q (F0 m 777 ls [])) : W p l e room_1 s m #[Value.ref b] below meth c H locs 99 8985 Q (F0 m 602 ls []) := by
  have hA : ∀ q : Nat, s.heap.size ≤ q → (fun q : Nat => s.heap.size ≤ q) q := fun _ h => h
  have hbA : ¬ (fun q : Nat => s.heap.size ≤ q) b := Nat.not_le.mpr hbl
  refine hI _ (fun aS aL aR aM aH aT aU aJ aN aE aY vL0 vL1 vL2 vL3 vR0 vR1 vR2 vR3 vM0 vM1 vM2 k s0 s1 s2 s3 s4 vT0 vT1 vT2 vT3 vT4 vT5 vU0 vU1 vJ0 vJ1 vN0 vN1 vN2 vE0 vE1 vE2 vE3 vE4 vE5 vE6 vY0 vY1 vY2 vY3 vY4 vY5 vY6 vY7 vY8 vY9 vY10 WW VV vD3 vD4 vD5 vD6 vD7 vD8 vD9 vD10 vD11 vD12 vD13 vD14 w vD16 vD17 vD18 vD19 vD20 vD21 vD22 ph hh hP hD hS hSt hHi hTx hWd hZt => ?_)
  have hj1 : vp_in (nI i + (1 : Int32)) L := lw_in (i := i) (j := 1) (by omega) hL
  have hj2 : vp_in (nI i + (2 : Int32)) L := lw_in (i := i) (j := 2) (by omega) hL
  obtain ⟨a, z4, z5, z6, z7, z8, z9, z10, e18, e19, e20, e21, e22, hC, hR⟩ := e_page hSt hWd hZt vY4 vY5 vY6 vY7 vY8 vY9 vY10 vD18 vD19 vD20 vD21 vD22 (xs (nI i + (1 : Int32)).toNatClampNeg) (xs (nI i + (2 : Int32)).toNatClampNeg)
  refine lv_aload_n hx hb dL_law_602 rfl (lv_at hl 1 rfl) ?_
  refine lv_aload_n hx hb dL_law_603 rfl (lv_at hl 0 rfl) ?_
  refine lv_iload_n hx hb dL_law_604 rfl (lv_at hl 3 rfl) ?_
  refine lv_iconst (v := (1 : Int32)) hx hb dL_law_605 (by decide) ?_
  refine lv_iadd hx hb dL_law_606 ?_
  refine va_sld hx hb hX hbl hbA hS hj1 dL_law_607 ?_
  refine lv_aload_n hx hb dL_law_608 rfl (lv_at hl 0 rfl) ?_
  refine lv_iload_n hx hb dL_law_609 rfl (lv_at hl 3 rfl) ?_
  refine lv_iconst (v := (2 : Int32)) hx hb dL_law_610 (by decide) ?_
  refine lv_iadd hx hb dL_law_611 ?_
  refine va_sld hx hb hX hbl hbA hS hj2 dL_law_612 ?_
  have hp := lw_pm7 (wVC aV aS aH.1 aT.1 aU aJ aE aY.1) (wSC aS aL.1 aR.1 aM.1) (wBK cI aL vL0 vL1 vL2 vL3) (wBK cI aR vR0 vR1 vR2 vR3) (wMP cI aM vM0 vM1 vM2) (wHF cI cS aH (I k) (hRo aH 0) s0 s1 s2 s3 s4) (wTX cC aT vT0 vT1 vT2 vT3 vT4 vT5) (wRR aU vU0 vU1) (wMR aJ aN.1 vJ0 vJ1) (wMP cI aN vN0 vN1 vN2) (wRE aE vE0 vE1 vE2 vE3 vE4 vE5 vE6) (wLY cI aY vY0 vY1 vY2 vY3 vY4 vY5 vY6 vY7 vY8 vY9 vY10) (wMD cC cI aD (cz WW) (cz VV) (I k) vD3 vD4 vD5 vD6 vD7 vD8 vD9 vD10 vD11 vD12 vD13 vD14 (cz w) vD16 vD17 vD18 vD19 vD20 vD21 vD22)
  have hp2 := lw_pm7 (wVC aV aS aH.1 aT.1 aU aJ aE aY.1) (wSC aS aL.1 aR.1 aM.1) (wBK cI aL vL0 vL1 vL2 vL3) (wBK cI aR vR0 vR1 vR2 vR3) (wMP cI aM vM0 vM1 vM2) (wHF cI cS aH (I k) (hRo aH 0) s0 s1 s2 s3 s4) (wTX cC aT vT0 vT1 vT2 vT3 vT4 vT5) (wRR aU vU0 vU1) (wMR aJ aN.1 vJ0 vJ1) (wMP cI aN vN0 vN1 vN2) (wRE aE vE0 vE1 vE2 vE3 vE4 vE5 vE6) (wLY cI aY vY0 vY1 vY2 vY3 z4 z5 z6 z7 z8 z9 z10) (wMD cC cI aD (cz WW) (cz VV) (I k) vD3 vD4 vD5 vD6 vD7 vD8 vD9 vD10 vD11 vD12 vD13 vD14 (cz w) vD16 vD17 vD18 vD19 vD20 vD21 vD22)
  refine kciwQ (res := a) (ws' := (wAll cI cC cS aV aS aL aR aM aH (hRo aH 0) aT aU aJ aN aE aY aD vL0 vL1 vL2 vL3 vR0 vR1 vR2 vR3 vM0 vM1 vM2 (I k) s0 s1 s2 s3 s4 vT0 vT1 vT2 vT3 vT4 vT5 vU0 vU1 vJ0 vJ1 vN0 vN1 vN2 vE0 vE1 vE2 vE3 vE4 vE5 vE6 vY0 vY1 vY2 vY3 z4 z5 z6 z7 z8 z9 z10 (cz WW) (cz VV) (I k) vD3 vD4 vD5 vD6 vD7 vD8 vD9 vD10 vD11 vD12 vD13 vD14 (cz w) vD16 vD17 vD18 vD19 vD20 vD21 vD22)) hp hp2.symm (va_runV (As := [.int (xs (nI i + (1 : Int32)).toNatClampNeg), .int (xs (nI i + (2 : Int32)).toNatClampNeg)]) (rest := []) ⟨hx, hb, hml, hown, hts⟩ (kX9_page l D cI cC cS aV aH.1 aT.1 aU aJ aE aS aL vL0 vL1 vL2 vL3 aR vR0 vR1 vR2 vR3 aM vM0 vM1 vM2 aY vY0 vY1 vY2 vY3 vY4 vY5 vY6 vY7 vY8 vY9 vY10 (xs (nI i + (1 : Int32)).toNatClampNeg) (xs (nI i + (2 : Int32)).toNatClampNeg) H.size hC) (cwV 2 hts gL_law_X9_page rfl rfl rfl (by decide +kernel) ⟨Nat.le_of_ble_eq_true rfl, Nat.le_of_ble_eq_true rfl⟩) (kpreVQ hp hK hN hP hD 9 rfl rfl) rfl rfl hl.1 rfl (lv_room (Nat.le_of_ble_eq_true rfl)) dL_law_613 ⟨Nat.le_of_ble_eq_true rfl, Nat.le_of_ble_eq_true rfl⟩) hP hD hS hA (fun H locs hP hD hS => ?_)
  clear hp2
  clear hp
  refine lv_aload_n hx hb dL_law_616 rfl (lv_at hl 2 rfl) ?_
  refine lv_aload_n hx hb dL_law_617 rfl (lv_at hl 0 rfl) ?_
  refine lv_iload_n hx hb dL_law_618 rfl (lv_at hl 3 rfl) ?_
  refine lv_iconst (v := (1 : Int32)) hx hb dL_law_619 (by decide) ?_
  refine lv_iadd hx hb dL_law_620 ?_
  refine va_sld hx hb hX hbl hbA hS hj1 dL_law_621 ?_
  refine lv_aload_n hx hb dL_law_622 rfl (lv_at hl 0 rfl) ?_
  refine lv_iload_n hx hb dL_law_623 rfl (lv_at hl 3 rfl) ?_
  refine lv_iconst (v := (2 : Int32)) hx hb dL_law_624 (by decide) ?_
  refine lv_iadd hx hb dL_law_625 ?_
  refine va_sld hx hb hX hbl hbA hS hj2 dL_law_626 ?_
  have hp := lw_pm1 (wVC aV aS aH.1 aT.1 aU aJ aE aY.1) (wSC aS aL.1 aR.1 aM.1) (wBK cI aL vL0 vL1 vL2 vL3) (wBK cI aR vR0 vR1 vR2 vR3) (wMP cI aM vM0 vM1 vM2) (wHF cI cS aH (I k) (hRo aH 0) s0 s1 s2 s3 s4) (wTX cC aT vT0 vT1 vT2 vT3 vT4 vT5) (wRR aU vU0 vU1) (wMR aJ aN.1 vJ0 vJ1) (wMP cI aN vN0 vN1 vN2) (wRE aE vE0 vE1 vE2 vE3 vE4 vE5 vE6) (wLY cI aY vY0 vY1 vY2 vY3 z4 z5 z6 z7 z8 z9 z10) (wMD cC cI aD (cz WW) (cz VV) (I k) vD3 vD4 vD5 vD6 vD7 vD8 vD9 vD10 vD11 vD12 vD13 vD14 (cz w) vD16 vD17 vD18 vD19 vD20 vD21 vD22)
  have hp2 := lw_pm1 (wVC aV aS aH.1 aT.1 aU aJ aE aY.1) (wSC aS aL.1 aR.1 aM.1) (wBK cI aL vL0 vL1 vL2 vL3) (wBK cI aR vR0 vR1 vR2 vR3) (wMP cI aM vM0 vM1 vM2) (wHF cI cS aH (I k) (hRo aH 0) s0 s1 s2 s3 s4) (wTX cC aT vT0 vT1 vT2 vT3 vT4 vT5) (wRR aU vU0 vU1) (wMR aJ aN.1 vJ0 vJ1) (wMP cI aN vN0 vN1 vN2) (wRE aE vE0 vE1 vE2 vE3 vE4 vE5 vE6) (wLY cI aY vY0 vY1 vY2 vY3 z4 z5 z6 z7 z8 z9 z10) (wMD cC cI aD (cz WW) (cz VV) (I k) vD3 vD4 vD5 vD6 vD7 vD8 vD9 vD10 vD11 vD12 vD13 vD14 (cz w) vD16 vD17 e18 e19 e20 e21 e22)
  refine kciwQ (res := a) (ws' := (wAll cI cC cS aV aS aL aR aM aH (hRo aH 0) aT aU aJ aN aE aY aD vL0 vL1 vL2 vL3 vR0 vR1 vR2 vR3 vM0 vM1 vM2 (I k) s0 s1 s2 s3 s4 vT0 vT1 vT2 vT3 vT4 vT5 vU0 vU1 vJ0 vJ1 vN0 vN1 vN2 vE0 vE1 vE2 vE3 vE4 vE5 vE6 vY0 vY1 vY2 vY3 z4 z5 z6 z7 z8 z9 z10 (cz WW) (cz VV) (I k) vD3 vD4 vD5 vD6 vD7 vD8 vD9 vD10 vD11 vD12 vD13 vD14 (cz w) vD16 vD17 e18 e19 e20 e21 e22)) hp hp2.symm (va_runV (As := [.int (xs (nI i + (1 : Int32)).toNatClampNeg), .int (xs (nI i + (2 : Int32)).toNatClampNeg)]) (rest := [.int a]) ⟨hx, hb, hml, hown, hts⟩ (kX10_page l D cI cC cS aD (cz WW) (cz VV) (I k) vD3 vD4 vD5 vD6 vD7 vD8 vD9 vD10 vD11 vD12 vD13 vD14 (cz w) vD16 vD17 vD18 vD19 vD20 vD21 vD22 (xs (nI i + (1 : Int32)).toNatClampNeg) (xs (nI i + (2 : Int32)).toNatClampNeg) H.size hR) (cwV 2 hts gL_law_X10_page rfl rfl rfl (by decide +kernel) ⟨Nat.le_of_ble_eq_true rfl, Nat.le_of_ble_eq_true rfl⟩) (kpreVQ hp hK hN hP hD 10 rfl rfl) rfl rfl hl.1 rfl (lv_room (Nat.le_of_ble_eq_true rfl)) dL_law_627 ⟨Nat.le_of_ble_eq_true rfl, Nat.le_of_ble_eq_true rfl⟩) hP hD hS hA (fun H locs hP hD hS => ?_)
  clear hp2
  clear hp
  refine lv_icmp_eq (tgt := 777) hx hb dL_law_630 (by decide) (fun _ => ?_) (fun g => absurd rfl g)
  exact kk _ _ (lw_fin (r := 0) hP hD hS hSt (Or.inl ⟨rfl, hHi⟩) hTx hWd hZt)
set_option maxRecDepth 100000 in
set_option maxHeartbeats 8000000 in
theorem lw_c17 (hx : p.tables.exec = Jvm.exec) (hb : c.code = code) (hml : c.maxLocals = 4) (hown : s.vm.findClass RL = some m.cls) (hts : ∀ w ∈ wsL_law, w.before #[Value.ref b] s = true) (hX : va_X b L xs s s.heap) (hbl : b < s.heap.size) (hK : va_K D vwCl (kTy cI cC cS) s) (hN : kN s) (hI : lwI D cI cC cS s aV aD H locs) (hL : L ≤ 2560) (hi : i + 5 ≤ L) (hl : lv_has ls 4 [(0, .ref b), (1, .ref aV), (2, .ref aD.1), (3, .int (nI i))]) (kk : ∀ (H : Heap) (locs : List Loc), lwI D cI cC cS s aV aD H locs → W p l e room_1 s m #[Value.ref b] below meth c H locs 99 8985 Q (F0 m 777 ls [])) : W p l e room_1 s m #[Value.ref b] below meth c H locs 99 8985 Q (F0 m 635 ls []) := by
  have hA : ∀ q : Nat, s.heap.size ≤ q → (fun q : Nat => s.heap.size ≤ q) q := fun _ h => h
  have hbA : ¬ (fun q : Nat => s.heap.size ≤ q) b := Nat.not_le.mpr hbl
  refine hI _ (fun aS aL aR aM aH aT aU aJ aN aE aY vL0 vL1 vL2 vL3 vR0 vR1 vR2 vR3 vM0 vM1 vM2 k s0 s1 s2 s3 s4 vT0 vT1 vT2 vT3 vT4 vT5 vU0 vU1 vJ0 vJ1 vN0 vN1 vN2 vE0 vE1 vE2 vE3 vE4 vE5 vE6 vY0 vY1 vY2 vY3 vY4 vY5 vY6 vY7 vY8 vY9 vY10 WW VV vD3 vD4 vD5 vD6 vD7 vD8 vD9 vD10 vD11 vD12 vD13 vD14 w vD16 vD17 vD18 vD19 vD20 vD21 vD22 ph hh hP hD hS hSt hHi hTx hWd hZt => ?_)
  have hj1 : vp_in (nI i + (1 : Int32)) L := lw_in (i := i) (j := 1) (by omega) hL
  have hj2 : vp_in (nI i + (2 : Int32)) L := lw_in (i := i) (j := 2) (by omega) hL
  have hj3 : vp_in (nI i + (3 : Int32)) L := lw_in (i := i) (j := 3) (by omega) hL
  obtain ⟨a, hC, hR⟩ := e_chapter hSt (xs (nI i + (1 : Int32)).toNatClampNeg) (xs (nI i + (2 : Int32)).toNatClampNeg) (xs (nI i + (3 : Int32)).toNatClampNeg)
  refine lv_aload_n hx hb dL_law_635 rfl (lv_at hl 1 rfl) ?_
  refine lv_aload_n hx hb dL_law_636 rfl (lv_at hl 0 rfl) ?_
  refine lv_iload_n hx hb dL_law_637 rfl (lv_at hl 3 rfl) ?_
  refine lv_iconst (v := (1 : Int32)) hx hb dL_law_638 (by decide) ?_
  refine lv_iadd hx hb dL_law_639 ?_
  refine va_sld hx hb hX hbl hbA hS hj1 dL_law_640 ?_
  refine lv_aload_n hx hb dL_law_641 rfl (lv_at hl 0 rfl) ?_
  refine lv_iload_n hx hb dL_law_642 rfl (lv_at hl 3 rfl) ?_
  refine lv_iconst (v := (2 : Int32)) hx hb dL_law_643 (by decide) ?_
  refine lv_iadd hx hb dL_law_644 ?_
  refine va_sld hx hb hX hbl hbA hS hj2 dL_law_645 ?_
  refine lv_aload_n hx hb dL_law_646 rfl (lv_at hl 0 rfl) ?_
  refine lv_iload_n hx hb dL_law_647 rfl (lv_at hl 3 rfl) ?_
  refine lv_iconst (v := (3 : Int32)) hx hb dL_law_648 (by decide) ?_
  refine lv_iadd hx hb dL_law_649 ?_
  refine va_sld hx hb hX hbl hbA hS hj3 dL_law_650 ?_
  have hp := lw_pm8 (wVC aV aS aH.1 aT.1 aU aJ aE aY.1) (wSC aS aL.1 aR.1 aM.1) (wBK cI aL vL0 vL1 vL2 vL3) (wBK cI aR vR0 vR1 vR2 vR3) (wMP cI aM vM0 vM1 vM2) (wHF cI cS aH (I k) (hRo aH 0) s0 s1 s2 s3 s4) (wTX cC aT vT0 vT1 vT2 vT3 vT4 vT5) (wRR aU vU0 vU1) (wMR aJ aN.1 vJ0 vJ1) (wMP cI aN vN0 vN1 vN2) (wRE aE vE0 vE1 vE2 vE3 vE4 vE5 vE6) (wLY cI aY vY0 vY1 vY2 vY3 vY4 vY5 vY6 vY7 vY8 vY9 vY10) (wMD cC cI aD (cz WW) (cz VV) (I k) vD3 vD4 vD5 vD6 vD7 vD8 vD9 vD10 vD11 vD12 vD13 vD14 (cz w) vD16 vD17 vD18 vD19 vD20 vD21 vD22)
  refine kcirQ (res := a) hp (va_runV (As := [.int (xs (nI i + (1 : Int32)).toNatClampNeg), .int (xs (nI i + (2 : Int32)).toNatClampNeg), .int (xs (nI i + (3 : Int32)).toNatClampNeg)]) (rest := []) ⟨hx, hb, hml, hown, hts⟩ (kX9_chapter l D cI cC cS aV aH.1 aT.1 aU aJ aE aY.1 aS aM.1 aL vL0 vL1 vL2 vL3 aR vR0 vR1 vR2 vR3 (xs (nI i + (1 : Int32)).toNatClampNeg) (xs (nI i + (2 : Int32)).toNatClampNeg) (xs (nI i + (3 : Int32)).toNatClampNeg) H.size hC) (cwV 3 hts gL_law_X9_chapter rfl rfl rfl (by decide +kernel) ⟨Nat.le_of_ble_eq_true rfl, Nat.le_of_ble_eq_true rfl⟩) (kpreVQ hp hK hN hP hD 9 rfl rfl) rfl rfl hl.1 rfl (lv_room (Nat.le_of_ble_eq_true rfl)) dL_law_651 ⟨Nat.le_of_ble_eq_true rfl, Nat.le_of_ble_eq_true rfl⟩) hP hD hS hA (fun H locs hP hS => ?_)
  clear hp
  refine lv_aload_n hx hb dL_law_654 rfl (lv_at hl 2 rfl) ?_
  refine lv_aload_n hx hb dL_law_655 rfl (lv_at hl 0 rfl) ?_
  refine lv_iload_n hx hb dL_law_656 rfl (lv_at hl 3 rfl) ?_
  refine lv_iconst (v := (1 : Int32)) hx hb dL_law_657 (by decide) ?_
  refine lv_iadd hx hb dL_law_658 ?_
  refine va_sld hx hb hX hbl hbA hS hj1 dL_law_659 ?_
  refine lv_aload_n hx hb dL_law_660 rfl (lv_at hl 0 rfl) ?_
  refine lv_iload_n hx hb dL_law_661 rfl (lv_at hl 3 rfl) ?_
  refine lv_iconst (v := (2 : Int32)) hx hb dL_law_662 (by decide) ?_
  refine lv_iadd hx hb dL_law_663 ?_
  refine va_sld hx hb hX hbl hbA hS hj2 dL_law_664 ?_
  refine lv_aload_n hx hb dL_law_665 rfl (lv_at hl 0 rfl) ?_
  refine lv_iload_n hx hb dL_law_666 rfl (lv_at hl 3 rfl) ?_
  refine lv_iconst (v := (3 : Int32)) hx hb dL_law_667 (by decide) ?_
  refine lv_iadd hx hb dL_law_668 ?_
  refine va_sld hx hb hX hbl hbA hS hj3 dL_law_669 ?_
  have hp := lw_pm1 (wVC aV aS aH.1 aT.1 aU aJ aE aY.1) (wSC aS aL.1 aR.1 aM.1) (wBK cI aL vL0 vL1 vL2 vL3) (wBK cI aR vR0 vR1 vR2 vR3) (wMP cI aM vM0 vM1 vM2) (wHF cI cS aH (I k) (hRo aH 0) s0 s1 s2 s3 s4) (wTX cC aT vT0 vT1 vT2 vT3 vT4 vT5) (wRR aU vU0 vU1) (wMR aJ aN.1 vJ0 vJ1) (wMP cI aN vN0 vN1 vN2) (wRE aE vE0 vE1 vE2 vE3 vE4 vE5 vE6) (wLY cI aY vY0 vY1 vY2 vY3 vY4 vY5 vY6 vY7 vY8 vY9 vY10) (wMD cC cI aD (cz WW) (cz VV) (I k) vD3 vD4 vD5 vD6 vD7 vD8 vD9 vD10 vD11 vD12 vD13 vD14 (cz w) vD16 vD17 vD18 vD19 vD20 vD21 vD22)
  refine kcirQ (res := a) hp (va_runV (As := [.int (xs (nI i + (1 : Int32)).toNatClampNeg), .int (xs (nI i + (2 : Int32)).toNatClampNeg), .int (xs (nI i + (3 : Int32)).toNatClampNeg)]) (rest := [.int a]) ⟨hx, hb, hml, hown, hts⟩ (kX10_chapter l D cI cC cS aD (cz WW) (cz VV) (I k) vD3 vD4 vD5 vD6 vD7 vD8 vD9 vD10 vD11 vD12 vD13 vD14 (cz w) vD16 vD17 vD18 vD19 vD20 vD21 vD22 (xs (nI i + (1 : Int32)).toNatClampNeg) (xs (nI i + (2 : Int32)).toNatClampNeg) (xs (nI i + (3 : Int32)).toNatClampNeg) H.size hR) (cwV 3 hts gL_law_X10_chapter rfl rfl rfl (by decide +kernel) ⟨Nat.le_of_ble_eq_true rfl, Nat.le_of_ble_eq_true rfl⟩) (kpreVQ hp hK hN hP hD 10 rfl rfl) rfl rfl hl.1 rfl (lv_room (Nat.le_of_ble_eq_true rfl)) dL_law_670 ⟨Nat.le_of_ble_eq_true rfl, Nat.le_of_ble_eq_true rfl⟩) hP hD hS hA (fun H locs hP hS => ?_)
  clear hp
  refine lv_icmp_eq (tgt := 777) hx hb dL_law_673 (by decide) (fun _ => ?_) (fun g => absurd rfl g)
  exact kk _ _ (lw_fin (r := 0) hP hD hS hSt (Or.inl ⟨rfl, hHi⟩) hTx hWd hZt)
set_option maxRecDepth 100000 in
set_option maxHeartbeats 8000000 in
theorem lw_c18 (hx : p.tables.exec = Jvm.exec) (hb : c.code = code) (hml : c.maxLocals = 4) (hown : s.vm.findClass RL = some m.cls) (hts : ∀ w ∈ wsL_law, w.before #[Value.ref b] s = true) (hX : va_X b L xs s s.heap) (hbl : b < s.heap.size) (hK : va_K D vwCl (kTy cI cC cS) s) (hN : kN s) (hI : lwI D cI cC cS s aV aD H locs) (hL : L ≤ 2560) (hi : i + 5 ≤ L) (hl : lv_has ls 4 [(0, .ref b), (1, .ref aV), (2, .ref aD.1), (3, .int (nI i))]) (kk : ∀ (H : Heap) (locs : List Loc), lwI D cI cC cS s aV aD H locs → W p l e room_1 s m #[Value.ref b] below meth c H locs 99 8985 Q (F0 m 777 ls [])) : W p l e room_1 s m #[Value.ref b] below meth c H locs 99 8985 Q (F0 m 678 ls []) := by
  have hA : ∀ q : Nat, s.heap.size ≤ q → (fun q : Nat => s.heap.size ≤ q) q := fun _ h => h
  have hbA : ¬ (fun q : Nat => s.heap.size ≤ q) b := Nat.not_le.mpr hbl
  refine hI _ (fun aS aL aR aM aH aT aU aJ aN aE aY vL0 vL1 vL2 vL3 vR0 vR1 vR2 vR3 vM0 vM1 vM2 k s0 s1 s2 s3 s4 vT0 vT1 vT2 vT3 vT4 vT5 vU0 vU1 vJ0 vJ1 vN0 vN1 vN2 vE0 vE1 vE2 vE3 vE4 vE5 vE6 vY0 vY1 vY2 vY3 vY4 vY5 vY6 vY7 vY8 vY9 vY10 WW VV vD3 vD4 vD5 vD6 vD7 vD8 vD9 vD10 vD11 vD12 vD13 vD14 w vD16 vD17 vD18 vD19 vD20 vD21 vD22 ph hh hP hD hS hSt hHi hTx hWd hZt => ?_)
  have hj1 : vp_in (nI i + (1 : Int32)) L := lw_in (i := i) (j := 1) (by omega) hL
  have hj2 : vp_in (nI i + (2 : Int32)) L := lw_in (i := i) (j := 2) (by omega) hL
  have hj3 : vp_in (nI i + (3 : Int32)) L := lw_in (i := i) (j := 3) (by omega) hL
  obtain ⟨a, hC, hR⟩ := e_verse hSt hWd (xs (nI i + (1 : Int32)).toNatClampNeg) (xs (nI i + (2 : Int32)).toNatClampNeg) (xs (nI i + (3 : Int32)).toNatClampNeg)
  refine lv_aload_n hx hb dL_law_678 rfl (lv_at hl 1 rfl) ?_
  refine lv_aload_n hx hb dL_law_679 rfl (lv_at hl 0 rfl) ?_
  refine lv_iload_n hx hb dL_law_680 rfl (lv_at hl 3 rfl) ?_
  refine lv_iconst (v := (1 : Int32)) hx hb dL_law_681 (by decide) ?_
  refine lv_iadd hx hb dL_law_682 ?_
  refine va_sld hx hb hX hbl hbA hS hj1 dL_law_683 ?_
  refine lv_aload_n hx hb dL_law_684 rfl (lv_at hl 0 rfl) ?_
  refine lv_iload_n hx hb dL_law_685 rfl (lv_at hl 3 rfl) ?_
  refine lv_iconst (v := (2 : Int32)) hx hb dL_law_686 (by decide) ?_
  refine lv_iadd hx hb dL_law_687 ?_
  refine va_sld hx hb hX hbl hbA hS hj2 dL_law_688 ?_
  refine lv_aload_n hx hb dL_law_689 rfl (lv_at hl 0 rfl) ?_
  refine lv_iload_n hx hb dL_law_690 rfl (lv_at hl 3 rfl) ?_
  refine lv_iconst (v := (3 : Int32)) hx hb dL_law_691 (by decide) ?_
  refine lv_iadd hx hb dL_law_692 ?_
  refine va_sld hx hb hX hbl hbA hS hj3 dL_law_693 ?_
  have hp := lw_pm9 (wVC aV aS aH.1 aT.1 aU aJ aE aY.1) (wSC aS aL.1 aR.1 aM.1) (wBK cI aL vL0 vL1 vL2 vL3) (wBK cI aR vR0 vR1 vR2 vR3) (wMP cI aM vM0 vM1 vM2) (wHF cI cS aH (I k) (hRo aH 0) s0 s1 s2 s3 s4) (wTX cC aT vT0 vT1 vT2 vT3 vT4 vT5) (wRR aU vU0 vU1) (wMR aJ aN.1 vJ0 vJ1) (wMP cI aN vN0 vN1 vN2) (wRE aE vE0 vE1 vE2 vE3 vE4 vE5 vE6) (wLY cI aY vY0 vY1 vY2 vY3 vY4 vY5 vY6 vY7 vY8 vY9 vY10) (wMD cC cI aD (cz WW) (cz VV) (I k) vD3 vD4 vD5 vD6 vD7 vD8 vD9 vD10 vD11 vD12 vD13 vD14 (cz w) vD16 vD17 vD18 vD19 vD20 vD21 vD22)
  refine kcirQ (res := a) hp (va_runV (As := [.int (xs (nI i + (1 : Int32)).toNatClampNeg), .int (xs (nI i + (2 : Int32)).toNatClampNeg), .int (xs (nI i + (3 : Int32)).toNatClampNeg)]) (rest := []) ⟨hx, hb, hml, hown, hts⟩ (kX9_verse l D cI cC cS aV aH.1 aT.1 aU aJ aE aS aM.1 aL vL0 vL1 vL2 vL3 aR vR0 vR1 vR2 vR3 aY vY0 vY1 vY2 vY3 vY4 vY5 vY6 vY7 vY8 vY9 vY10 (xs (nI i + (1 : Int32)).toNatClampNeg) (xs (nI i + (2 : Int32)).toNatClampNeg) (xs (nI i + (3 : Int32)).toNatClampNeg) H.size hC) (cwV 3 hts gL_law_X9_verse rfl rfl rfl (by decide +kernel) ⟨Nat.le_of_ble_eq_true rfl, Nat.le_of_ble_eq_true rfl⟩) (kpreVQ hp hK hN hP hD 9 rfl rfl) rfl rfl hl.1 rfl (lv_room (Nat.le_of_ble_eq_true rfl)) dL_law_694 ⟨Nat.le_of_ble_eq_true rfl, Nat.le_of_ble_eq_true rfl⟩) hP hD hS hA (fun H locs hP hS => ?_)
  clear hp
  refine lv_aload_n hx hb dL_law_697 rfl (lv_at hl 2 rfl) ?_
  refine lv_aload_n hx hb dL_law_698 rfl (lv_at hl 0 rfl) ?_
  refine lv_iload_n hx hb dL_law_699 rfl (lv_at hl 3 rfl) ?_
  refine lv_iconst (v := (1 : Int32)) hx hb dL_law_700 (by decide) ?_
  refine lv_iadd hx hb dL_law_701 ?_
  refine va_sld hx hb hX hbl hbA hS hj1 dL_law_702 ?_
  refine lv_aload_n hx hb dL_law_703 rfl (lv_at hl 0 rfl) ?_
  refine lv_iload_n hx hb dL_law_704 rfl (lv_at hl 3 rfl) ?_
  refine lv_iconst (v := (2 : Int32)) hx hb dL_law_705 (by decide) ?_
  refine lv_iadd hx hb dL_law_706 ?_
  refine va_sld hx hb hX hbl hbA hS hj2 dL_law_707 ?_
  refine lv_aload_n hx hb dL_law_708 rfl (lv_at hl 0 rfl) ?_
  refine lv_iload_n hx hb dL_law_709 rfl (lv_at hl 3 rfl) ?_
  refine lv_iconst (v := (3 : Int32)) hx hb dL_law_710 (by decide) ?_
  refine lv_iadd hx hb dL_law_711 ?_
  refine va_sld hx hb hX hbl hbA hS hj3 dL_law_712 ?_
  have hp := lw_pm1 (wVC aV aS aH.1 aT.1 aU aJ aE aY.1) (wSC aS aL.1 aR.1 aM.1) (wBK cI aL vL0 vL1 vL2 vL3) (wBK cI aR vR0 vR1 vR2 vR3) (wMP cI aM vM0 vM1 vM2) (wHF cI cS aH (I k) (hRo aH 0) s0 s1 s2 s3 s4) (wTX cC aT vT0 vT1 vT2 vT3 vT4 vT5) (wRR aU vU0 vU1) (wMR aJ aN.1 vJ0 vJ1) (wMP cI aN vN0 vN1 vN2) (wRE aE vE0 vE1 vE2 vE3 vE4 vE5 vE6) (wLY cI aY vY0 vY1 vY2 vY3 vY4 vY5 vY6 vY7 vY8 vY9 vY10) (wMD cC cI aD (cz WW) (cz VV) (I k) vD3 vD4 vD5 vD6 vD7 vD8 vD9 vD10 vD11 vD12 vD13 vD14 (cz w) vD16 vD17 vD18 vD19 vD20 vD21 vD22)
  refine kcirQ (res := a) hp (va_runV (As := [.int (xs (nI i + (1 : Int32)).toNatClampNeg), .int (xs (nI i + (2 : Int32)).toNatClampNeg), .int (xs (nI i + (3 : Int32)).toNatClampNeg)]) (rest := [.int a]) ⟨hx, hb, hml, hown, hts⟩ (kX10_verse l D cI cC cS aD (cz WW) (cz VV) (I k) vD3 vD4 vD5 vD6 vD7 vD8 vD9 vD10 vD11 vD12 vD13 vD14 (cz w) vD16 vD17 vD18 vD19 vD20 vD21 vD22 (xs (nI i + (1 : Int32)).toNatClampNeg) (xs (nI i + (2 : Int32)).toNatClampNeg) (xs (nI i + (3 : Int32)).toNatClampNeg) H.size hR) (cwV 3 hts gL_law_X10_verse rfl rfl rfl (by decide +kernel) ⟨Nat.le_of_ble_eq_true rfl, Nat.le_of_ble_eq_true rfl⟩) (kpreVQ hp hK hN hP hD 10 rfl rfl) rfl rfl hl.1 rfl (lv_room (Nat.le_of_ble_eq_true rfl)) dL_law_713 ⟨Nat.le_of_ble_eq_true rfl, Nat.le_of_ble_eq_true rfl⟩) hP hD hS hA (fun H locs hP hS => ?_)
  clear hp
  refine lv_icmp_eq (tgt := 777) hx hb dL_law_716 (by decide) (fun _ => ?_) (fun g => absurd rfl g)
  exact kk _ _ (lw_fin (r := 0) hP hD hS hSt (Or.inl ⟨rfl, hHi⟩) hTx hWd hZt)
set_option maxRecDepth 100000 in
set_option maxHeartbeats 8000000 in
theorem lw_c19 (hx : p.tables.exec = Jvm.exec) (hb : c.code = code) (hml : c.maxLocals = 4) (hown : s.vm.findClass RL = some m.cls) (hts : ∀ w ∈ wsL_law, w.before #[Value.ref b] s = true) (hX : va_X b L xs s s.heap) (hbl : b < s.heap.size) (hK : va_K D vwCl (kTy cI cC cS) s) (hN : kN s) (hI : lwI D cI cC cS s aV aD H locs) (hL : L ≤ 2560) (hi : i + 5 ≤ L) (hl : lv_has ls 4 [(0, .ref b), (1, .ref aV), (2, .ref aD.1), (3, .int (nI i))]) (kk : ∀ (H : Heap) (locs : List Loc), lwI D cI cC cS s aV aD H locs → W p l e room_1 s m #[Value.ref b] below meth c H locs 99 8985 Q (F0 m 777 ls [])) : W p l e room_1 s m #[Value.ref b] below meth c H locs 99 8985 Q (F0 m 721 ls []) := by
  have hA : ∀ q : Nat, s.heap.size ≤ q → (fun q : Nat => s.heap.size ≤ q) q := fun _ h => h
  have hbA : ¬ (fun q : Nat => s.heap.size ≤ q) b := Nat.not_le.mpr hbl
  refine hI _ (fun aS aL aR aM aH aT aU aJ aN aE aY vL0 vL1 vL2 vL3 vR0 vR1 vR2 vR3 vM0 vM1 vM2 k s0 s1 s2 s3 s4 vT0 vT1 vT2 vT3 vT4 vT5 vU0 vU1 vJ0 vJ1 vN0 vN1 vN2 vE0 vE1 vE2 vE3 vE4 vE5 vE6 vY0 vY1 vY2 vY3 vY4 vY5 vY6 vY7 vY8 vY9 vY10 WW VV vD3 vD4 vD5 vD6 vD7 vD8 vD9 vD10 vD11 vD12 vD13 vD14 w vD16 vD17 vD18 vD19 vD20 vD21 vD22 ph hh hP hD hS hSt hHi hTx hWd hZt => ?_)
  have hj1 : vp_in (nI i + (1 : Int32)) L := lw_in (i := i) (j := 1) (by omega) hL
  have hj2 : vp_in (nI i + (2 : Int32)) L := lw_in (i := i) (j := 2) (by omega) hL
  obtain ⟨a, z4, z5, z6, z7, z8, z9, z10, e18, e19, e20, e21, e22, hC, hR⟩ := e_group hSt hWd hZt vY4 vY5 vY6 vY7 vY8 vY9 vY10 vD18 vD19 vD20 vD21 vD22 (xs (nI i + (1 : Int32)).toNatClampNeg) (xs (nI i + (2 : Int32)).toNatClampNeg)
  refine lv_aload_n hx hb dL_law_721 rfl (lv_at hl 1 rfl) ?_
  refine lv_aload_n hx hb dL_law_722 rfl (lv_at hl 0 rfl) ?_
  refine lv_iload_n hx hb dL_law_723 rfl (lv_at hl 3 rfl) ?_
  refine lv_iconst (v := (1 : Int32)) hx hb dL_law_724 (by decide) ?_
  refine lv_iadd hx hb dL_law_725 ?_
  refine va_sld hx hb hX hbl hbA hS hj1 dL_law_726 ?_
  refine lv_aload_n hx hb dL_law_727 rfl (lv_at hl 0 rfl) ?_
  refine lv_iload_n hx hb dL_law_728 rfl (lv_at hl 3 rfl) ?_
  refine lv_iconst (v := (2 : Int32)) hx hb dL_law_729 (by decide) ?_
  refine lv_iadd hx hb dL_law_730 ?_
  refine va_sld hx hb hX hbl hbA hS hj2 dL_law_731 ?_
  have hp := lw_pm7 (wVC aV aS aH.1 aT.1 aU aJ aE aY.1) (wSC aS aL.1 aR.1 aM.1) (wBK cI aL vL0 vL1 vL2 vL3) (wBK cI aR vR0 vR1 vR2 vR3) (wMP cI aM vM0 vM1 vM2) (wHF cI cS aH (I k) (hRo aH 0) s0 s1 s2 s3 s4) (wTX cC aT vT0 vT1 vT2 vT3 vT4 vT5) (wRR aU vU0 vU1) (wMR aJ aN.1 vJ0 vJ1) (wMP cI aN vN0 vN1 vN2) (wRE aE vE0 vE1 vE2 vE3 vE4 vE5 vE6) (wLY cI aY vY0 vY1 vY2 vY3 vY4 vY5 vY6 vY7 vY8 vY9 vY10) (wMD cC cI aD (cz WW) (cz VV) (I k) vD3 vD4 vD5 vD6 vD7 vD8 vD9 vD10 vD11 vD12 vD13 vD14 (cz w) vD16 vD17 vD18 vD19 vD20 vD21 vD22)
  have hp2 := lw_pm7 (wVC aV aS aH.1 aT.1 aU aJ aE aY.1) (wSC aS aL.1 aR.1 aM.1) (wBK cI aL vL0 vL1 vL2 vL3) (wBK cI aR vR0 vR1 vR2 vR3) (wMP cI aM vM0 vM1 vM2) (wHF cI cS aH (I k) (hRo aH 0) s0 s1 s2 s3 s4) (wTX cC aT vT0 vT1 vT2 vT3 vT4 vT5) (wRR aU vU0 vU1) (wMR aJ aN.1 vJ0 vJ1) (wMP cI aN vN0 vN1 vN2) (wRE aE vE0 vE1 vE2 vE3 vE4 vE5 vE6) (wLY cI aY vY0 vY1 vY2 vY3 z4 z5 z6 z7 z8 z9 z10) (wMD cC cI aD (cz WW) (cz VV) (I k) vD3 vD4 vD5 vD6 vD7 vD8 vD9 vD10 vD11 vD12 vD13 vD14 (cz w) vD16 vD17 vD18 vD19 vD20 vD21 vD22)
  refine kciwQ (res := a) (ws' := (wAll cI cC cS aV aS aL aR aM aH (hRo aH 0) aT aU aJ aN aE aY aD vL0 vL1 vL2 vL3 vR0 vR1 vR2 vR3 vM0 vM1 vM2 (I k) s0 s1 s2 s3 s4 vT0 vT1 vT2 vT3 vT4 vT5 vU0 vU1 vJ0 vJ1 vN0 vN1 vN2 vE0 vE1 vE2 vE3 vE4 vE5 vE6 vY0 vY1 vY2 vY3 z4 z5 z6 z7 z8 z9 z10 (cz WW) (cz VV) (I k) vD3 vD4 vD5 vD6 vD7 vD8 vD9 vD10 vD11 vD12 vD13 vD14 (cz w) vD16 vD17 vD18 vD19 vD20 vD21 vD22)) hp hp2.symm (va_runV (As := [.int (xs (nI i + (1 : Int32)).toNatClampNeg), .int (xs (nI i + (2 : Int32)).toNatClampNeg)]) (rest := []) ⟨hx, hb, hml, hown, hts⟩ (kX9_group l D cI cC cS aV aH.1 aT.1 aU aJ aE aS aL vL0 vL1 vL2 vL3 aR vR0 vR1 vR2 vR3 aM vM0 vM1 vM2 aY vY0 vY1 vY2 vY3 vY4 vY5 vY6 vY7 vY8 vY9 vY10 (xs (nI i + (1 : Int32)).toNatClampNeg) (xs (nI i + (2 : Int32)).toNatClampNeg) H.size hC) (cwV 2 hts gL_law_X9_group rfl rfl rfl (by decide +kernel) ⟨Nat.le_of_ble_eq_true rfl, Nat.le_of_ble_eq_true rfl⟩) (kpreVQ hp hK hN hP hD 9 rfl rfl) rfl rfl hl.1 rfl (lv_room (Nat.le_of_ble_eq_true rfl)) dL_law_732 ⟨Nat.le_of_ble_eq_true rfl, Nat.le_of_ble_eq_true rfl⟩) hP hD hS hA (fun H locs hP hD hS => ?_)
  clear hp2
  clear hp
  refine lv_aload_n hx hb dL_law_735 rfl (lv_at hl 2 rfl) ?_
  refine lv_aload_n hx hb dL_law_736 rfl (lv_at hl 0 rfl) ?_
  refine lv_iload_n hx hb dL_law_737 rfl (lv_at hl 3 rfl) ?_
  refine lv_iconst (v := (1 : Int32)) hx hb dL_law_738 (by decide) ?_
  refine lv_iadd hx hb dL_law_739 ?_
  refine va_sld hx hb hX hbl hbA hS hj1 dL_law_740 ?_
  refine lv_aload_n hx hb dL_law_741 rfl (lv_at hl 0 rfl) ?_
  refine lv_iload_n hx hb dL_law_742 rfl (lv_at hl 3 rfl) ?_
  refine lv_iconst (v := (2 : Int32)) hx hb dL_law_743 (by decide) ?_
  refine lv_iadd hx hb dL_law_744 ?_
  refine va_sld hx hb hX hbl hbA hS hj2 dL_law_745 ?_
  have hp := lw_pm1 (wVC aV aS aH.1 aT.1 aU aJ aE aY.1) (wSC aS aL.1 aR.1 aM.1) (wBK cI aL vL0 vL1 vL2 vL3) (wBK cI aR vR0 vR1 vR2 vR3) (wMP cI aM vM0 vM1 vM2) (wHF cI cS aH (I k) (hRo aH 0) s0 s1 s2 s3 s4) (wTX cC aT vT0 vT1 vT2 vT3 vT4 vT5) (wRR aU vU0 vU1) (wMR aJ aN.1 vJ0 vJ1) (wMP cI aN vN0 vN1 vN2) (wRE aE vE0 vE1 vE2 vE3 vE4 vE5 vE6) (wLY cI aY vY0 vY1 vY2 vY3 z4 z5 z6 z7 z8 z9 z10) (wMD cC cI aD (cz WW) (cz VV) (I k) vD3 vD4 vD5 vD6 vD7 vD8 vD9 vD10 vD11 vD12 vD13 vD14 (cz w) vD16 vD17 vD18 vD19 vD20 vD21 vD22)
  have hp2 := lw_pm1 (wVC aV aS aH.1 aT.1 aU aJ aE aY.1) (wSC aS aL.1 aR.1 aM.1) (wBK cI aL vL0 vL1 vL2 vL3) (wBK cI aR vR0 vR1 vR2 vR3) (wMP cI aM vM0 vM1 vM2) (wHF cI cS aH (I k) (hRo aH 0) s0 s1 s2 s3 s4) (wTX cC aT vT0 vT1 vT2 vT3 vT4 vT5) (wRR aU vU0 vU1) (wMR aJ aN.1 vJ0 vJ1) (wMP cI aN vN0 vN1 vN2) (wRE aE vE0 vE1 vE2 vE3 vE4 vE5 vE6) (wLY cI aY vY0 vY1 vY2 vY3 z4 z5 z6 z7 z8 z9 z10) (wMD cC cI aD (cz WW) (cz VV) (I k) vD3 vD4 vD5 vD6 vD7 vD8 vD9 vD10 vD11 vD12 vD13 vD14 (cz w) vD16 vD17 e18 e19 e20 e21 e22)
  refine kciwQ (res := a) (ws' := (wAll cI cC cS aV aS aL aR aM aH (hRo aH 0) aT aU aJ aN aE aY aD vL0 vL1 vL2 vL3 vR0 vR1 vR2 vR3 vM0 vM1 vM2 (I k) s0 s1 s2 s3 s4 vT0 vT1 vT2 vT3 vT4 vT5 vU0 vU1 vJ0 vJ1 vN0 vN1 vN2 vE0 vE1 vE2 vE3 vE4 vE5 vE6 vY0 vY1 vY2 vY3 z4 z5 z6 z7 z8 z9 z10 (cz WW) (cz VV) (I k) vD3 vD4 vD5 vD6 vD7 vD8 vD9 vD10 vD11 vD12 vD13 vD14 (cz w) vD16 vD17 e18 e19 e20 e21 e22)) hp hp2.symm (va_runV (As := [.int (xs (nI i + (1 : Int32)).toNatClampNeg), .int (xs (nI i + (2 : Int32)).toNatClampNeg)]) (rest := [.int a]) ⟨hx, hb, hml, hown, hts⟩ (kX10_group l D cI cC cS aD (cz WW) (cz VV) (I k) vD3 vD4 vD5 vD6 vD7 vD8 vD9 vD10 vD11 vD12 vD13 vD14 (cz w) vD16 vD17 vD18 vD19 vD20 vD21 vD22 (xs (nI i + (1 : Int32)).toNatClampNeg) (xs (nI i + (2 : Int32)).toNatClampNeg) H.size hR) (cwV 2 hts gL_law_X10_group rfl rfl rfl (by decide +kernel) ⟨Nat.le_of_ble_eq_true rfl, Nat.le_of_ble_eq_true rfl⟩) (kpreVQ hp hK hN hP hD 10 rfl rfl) rfl rfl hl.1 rfl (lv_room (Nat.le_of_ble_eq_true rfl)) dL_law_746 ⟨Nat.le_of_ble_eq_true rfl, Nat.le_of_ble_eq_true rfl⟩) hP hD hS hA (fun H locs hP hD hS => ?_)
  clear hp2
  clear hp
  refine lv_icmp_eq (tgt := 777) hx hb dL_law_749 (by decide) (fun _ => ?_) (fun g => absurd rfl g)
  exact kk _ _ (lw_fin (r := 0) hP hD hS hSt (Or.inl ⟨rfl, hHi⟩) hTx hWd hZt)
set_option maxRecDepth 100000 in
set_option maxHeartbeats 8000000 in
theorem lw_c20 (hx : p.tables.exec = Jvm.exec) (hb : c.code = code) (hml : c.maxLocals = 4) (hown : s.vm.findClass RL = some m.cls) (hts : ∀ w ∈ wsL_law, w.before #[Value.ref b] s = true) (hX : va_X b L xs s s.heap) (hbl : b < s.heap.size) (hK : va_K D vwCl (kTy cI cC cS) s) (hN : kN s) (hI : lwI D cI cC cS s aV aD H locs) (hL : L ≤ 2560) (hi : i + 5 ≤ L) (hl : lv_has ls 4 [(0, .ref b), (1, .ref aV), (2, .ref aD.1), (3, .int (nI i))]) (kk : ∀ (H : Heap) (locs : List Loc), lwI D cI cC cS s aV aD H locs → W p l e room_1 s m #[Value.ref b] below meth c H locs 99 8985 Q (F0 m 777 ls [])) : W p l e room_1 s m #[Value.ref b] below meth c H locs 99 8985 Q (F0 m 754 ls []) := by
  have hA : ∀ q : Nat, s.heap.size ≤ q → (fun q : Nat => s.heap.size ≤ q) q := fun _ h => h
  have hbA : ¬ (fun q : Nat => s.heap.size ≤ q) b := Nat.not_le.mpr hbl
  refine hI _ (fun aS aL aR aM aH aT aU aJ aN aE aY vL0 vL1 vL2 vL3 vR0 vR1 vR2 vR3 vM0 vM1 vM2 k s0 s1 s2 s3 s4 vT0 vT1 vT2 vT3 vT4 vT5 vU0 vU1 vJ0 vJ1 vN0 vN1 vN2 vE0 vE1 vE2 vE3 vE4 vE5 vE6 vY0 vY1 vY2 vY3 vY4 vY5 vY6 vY7 vY8 vY9 vY10 WW VV vD3 vD4 vD5 vD6 vD7 vD8 vD9 vD10 vD11 vD12 vD13 vD14 w vD16 vD17 vD18 vD19 vD20 vD21 vD22 ph hh hP hD hS hSt hHi hTx hWd hZt => ?_)
  have hj1 : vp_in (nI i + (1 : Int32)) L := lw_in (i := i) (j := 1) (by omega) hL
  obtain ⟨a, z4, z5, z6, z7, z8, z9, z10, e18, e19, e20, e21, e22, hC, hR⟩ := e_count (I k) hSt hWd hZt vY4 vY5 vY6 vY7 vY8 vY9 vY10 vD18 vD19 vD20 vD21 vD22 (xs (nI i + (1 : Int32)).toNatClampNeg)
  refine lv_aload_n hx hb dL_law_754 rfl (lv_at hl 1 rfl) ?_
  refine lv_aload_n hx hb dL_law_755 rfl (lv_at hl 0 rfl) ?_
  refine lv_iload_n hx hb dL_law_756 rfl (lv_at hl 3 rfl) ?_
  refine lv_iconst (v := (1 : Int32)) hx hb dL_law_757 (by decide) ?_
  refine lv_iadd hx hb dL_law_758 ?_
  refine va_sld hx hb hX hbl hbA hS hj1 dL_law_759 ?_
  have hp := lw_pm10 (wVC aV aS aH.1 aT.1 aU aJ aE aY.1) (wSC aS aL.1 aR.1 aM.1) (wBK cI aL vL0 vL1 vL2 vL3) (wBK cI aR vR0 vR1 vR2 vR3) (wMP cI aM vM0 vM1 vM2) (wHF cI cS aH (I k) (hRo aH 0) s0 s1 s2 s3 s4) (wTX cC aT vT0 vT1 vT2 vT3 vT4 vT5) (wRR aU vU0 vU1) (wMR aJ aN.1 vJ0 vJ1) (wMP cI aN vN0 vN1 vN2) (wRE aE vE0 vE1 vE2 vE3 vE4 vE5 vE6) (wLY cI aY vY0 vY1 vY2 vY3 vY4 vY5 vY6 vY7 vY8 vY9 vY10) (wMD cC cI aD (cz WW) (cz VV) (I k) vD3 vD4 vD5 vD6 vD7 vD8 vD9 vD10 vD11 vD12 vD13 vD14 (cz w) vD16 vD17 vD18 vD19 vD20 vD21 vD22)
  have hp2 := lw_pm10 (wVC aV aS aH.1 aT.1 aU aJ aE aY.1) (wSC aS aL.1 aR.1 aM.1) (wBK cI aL vL0 vL1 vL2 vL3) (wBK cI aR vR0 vR1 vR2 vR3) (wMP cI aM vM0 vM1 vM2) (wHF cI cS aH (I k) (hRo aH 0) s0 s1 s2 s3 s4) (wTX cC aT vT0 vT1 vT2 vT3 vT4 vT5) (wRR aU vU0 vU1) (wMR aJ aN.1 vJ0 vJ1) (wMP cI aN vN0 vN1 vN2) (wRE aE vE0 vE1 vE2 vE3 vE4 vE5 vE6) (wLY cI aY vY0 vY1 vY2 vY3 z4 z5 z6 z7 z8 z9 z10) (wMD cC cI aD (cz WW) (cz VV) (I k) vD3 vD4 vD5 vD6 vD7 vD8 vD9 vD10 vD11 vD12 vD13 vD14 (cz w) vD16 vD17 vD18 vD19 vD20 vD21 vD22)
  refine kciwQ (res := a) (ws' := (wAll cI cC cS aV aS aL aR aM aH (hRo aH 0) aT aU aJ aN aE aY aD vL0 vL1 vL2 vL3 vR0 vR1 vR2 vR3 vM0 vM1 vM2 (I k) s0 s1 s2 s3 s4 vT0 vT1 vT2 vT3 vT4 vT5 vU0 vU1 vJ0 vJ1 vN0 vN1 vN2 vE0 vE1 vE2 vE3 vE4 vE5 vE6 vY0 vY1 vY2 vY3 z4 z5 z6 z7 z8 z9 z10 (cz WW) (cz VV) (I k) vD3 vD4 vD5 vD6 vD7 vD8 vD9 vD10 vD11 vD12 vD13 vD14 (cz w) vD16 vD17 vD18 vD19 vD20 vD21 vD22)) hp hp2.symm (va_runV (As := [.int (xs (nI i + (1 : Int32)).toNatClampNeg)]) (rest := []) ⟨hx, hb, hml, hown, hts⟩ (kX9_count l D cI cC cS aV aT.1 aU aJ aE aS aL vL0 vL1 vL2 vL3 aR vR0 vR1 vR2 vR3 aM vM0 vM1 vM2 aH (I k) s0 s1 s2 s3 s4 aY vY0 vY1 vY2 vY3 vY4 vY5 vY6 vY7 vY8 vY9 vY10 (xs (nI i + (1 : Int32)).toNatClampNeg) H.size hC) (cwV 1 hts gL_law_X9_count rfl rfl rfl (by decide +kernel) ⟨Nat.le_of_ble_eq_true rfl, Nat.le_of_ble_eq_true rfl⟩) (kpreVQ hp hK hN hP hD 9 rfl rfl) rfl rfl hl.1 rfl (lv_room (Nat.le_of_ble_eq_true rfl)) dL_law_760 ⟨Nat.le_of_ble_eq_true rfl, Nat.le_of_ble_eq_true rfl⟩) hP hD hS hA (fun H locs hP hD hS => ?_)
  clear hp2
  clear hp
  refine lv_aload_n hx hb dL_law_763 rfl (lv_at hl 2 rfl) ?_
  refine lv_aload_n hx hb dL_law_764 rfl (lv_at hl 0 rfl) ?_
  refine lv_iload_n hx hb dL_law_765 rfl (lv_at hl 3 rfl) ?_
  refine lv_iconst (v := (1 : Int32)) hx hb dL_law_766 (by decide) ?_
  refine lv_iadd hx hb dL_law_767 ?_
  refine va_sld hx hb hX hbl hbA hS hj1 dL_law_768 ?_
  have hp := lw_pm1 (wVC aV aS aH.1 aT.1 aU aJ aE aY.1) (wSC aS aL.1 aR.1 aM.1) (wBK cI aL vL0 vL1 vL2 vL3) (wBK cI aR vR0 vR1 vR2 vR3) (wMP cI aM vM0 vM1 vM2) (wHF cI cS aH (I k) (hRo aH 0) s0 s1 s2 s3 s4) (wTX cC aT vT0 vT1 vT2 vT3 vT4 vT5) (wRR aU vU0 vU1) (wMR aJ aN.1 vJ0 vJ1) (wMP cI aN vN0 vN1 vN2) (wRE aE vE0 vE1 vE2 vE3 vE4 vE5 vE6) (wLY cI aY vY0 vY1 vY2 vY3 z4 z5 z6 z7 z8 z9 z10) (wMD cC cI aD (cz WW) (cz VV) (I k) vD3 vD4 vD5 vD6 vD7 vD8 vD9 vD10 vD11 vD12 vD13 vD14 (cz w) vD16 vD17 vD18 vD19 vD20 vD21 vD22)
  have hp2 := lw_pm1 (wVC aV aS aH.1 aT.1 aU aJ aE aY.1) (wSC aS aL.1 aR.1 aM.1) (wBK cI aL vL0 vL1 vL2 vL3) (wBK cI aR vR0 vR1 vR2 vR3) (wMP cI aM vM0 vM1 vM2) (wHF cI cS aH (I k) (hRo aH 0) s0 s1 s2 s3 s4) (wTX cC aT vT0 vT1 vT2 vT3 vT4 vT5) (wRR aU vU0 vU1) (wMR aJ aN.1 vJ0 vJ1) (wMP cI aN vN0 vN1 vN2) (wRE aE vE0 vE1 vE2 vE3 vE4 vE5 vE6) (wLY cI aY vY0 vY1 vY2 vY3 z4 z5 z6 z7 z8 z9 z10) (wMD cC cI aD (cz WW) (cz VV) (I k) vD3 vD4 vD5 vD6 vD7 vD8 vD9 vD10 vD11 vD12 vD13 vD14 (cz w) vD16 vD17 e18 e19 e20 e21 e22)
  refine kciwQ (res := a) (ws' := (wAll cI cC cS aV aS aL aR aM aH (hRo aH 0) aT aU aJ aN aE aY aD vL0 vL1 vL2 vL3 vR0 vR1 vR2 vR3 vM0 vM1 vM2 (I k) s0 s1 s2 s3 s4 vT0 vT1 vT2 vT3 vT4 vT5 vU0 vU1 vJ0 vJ1 vN0 vN1 vN2 vE0 vE1 vE2 vE3 vE4 vE5 vE6 vY0 vY1 vY2 vY3 z4 z5 z6 z7 z8 z9 z10 (cz WW) (cz VV) (I k) vD3 vD4 vD5 vD6 vD7 vD8 vD9 vD10 vD11 vD12 vD13 vD14 (cz w) vD16 vD17 e18 e19 e20 e21 e22)) hp hp2.symm (va_runV (As := [.int (xs (nI i + (1 : Int32)).toNatClampNeg)]) (rest := [.int a]) ⟨hx, hb, hml, hown, hts⟩ (kX10_count l D cI cC cS aD (cz WW) (cz VV) (I k) vD3 vD4 vD5 vD6 vD7 vD8 vD9 vD10 vD11 vD12 vD13 vD14 (cz w) vD16 vD17 vD18 vD19 vD20 vD21 vD22 (xs (nI i + (1 : Int32)).toNatClampNeg) H.size hR) (cwV 1 hts gL_law_X10_count rfl rfl rfl (by decide +kernel) ⟨Nat.le_of_ble_eq_true rfl, Nat.le_of_ble_eq_true rfl⟩) (kpreVQ hp hK hN hP hD 10 rfl rfl) rfl rfl hl.1 rfl (lv_room (Nat.le_of_ble_eq_true rfl)) dL_law_769 ⟨Nat.le_of_ble_eq_true rfl, Nat.le_of_ble_eq_true rfl⟩) hP hD hS hA (fun H locs hP hD hS => ?_)
  clear hp2
  clear hp
  refine lv_icmp_eq (tgt := 777) hx hb dL_law_772 (by decide) (fun _ => ?_) (fun g => absurd rfl g)
  exact kk _ _ (lw_fin (r := 0) hP hD hS hSt (Or.inl ⟨rfl, hHi⟩) hTx hWd hZt)
end LAW
