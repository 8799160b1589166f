section LAW
variable {p : Program} {l : Launch} {e : Env} {s : State} {m : MethodId} {below : List Frame} {meth : Method} {c : Code} {D : va_G} {cI cC cS : ClassId} {aV : Nat} {aD : Nat × Nat × Nat × Nat × Nat × Nat × Nat × Nat × Nat × Nat × Nat} {b L i : Nat} {xs : Nat → Int32} {Q : State → Prop} {ls : Array Slot} {H : Heap} {locs : List Loc}
set_option maxRecDepth 100000 in
set_option maxHeartbeats 8000000 in
theorem lw_c0 (hx : p.tables.exec = Jvm.exec) (hb : c.code = code) (hml : c.maxLocals = 4) (hown : s.vm.findClass RL = some m.cls) (hts : ∀ w ∈ wsL_law, w.before #[Value.ref b] s = true) (hX : va_X b L xs s s.heap) (hbl : b < s.heap.size) (hK : va_K D vwCl (kTy cI cC cS) s) (hN : kN s) (hI : lwI D cI cC cS s aV aD H locs) (hL : L ≤ 2560) (hi : i + 5 ≤ L) (hl : lv_has ls 4 [(0, .ref b), (1, .ref aV), (2, .ref aD.1), (3, .int (nI i))]) (kk : ∀ (H : Heap) (locs : List Loc), lwI D cI cC cS s aV aD H locs → W p l e room_1 s m #[Value.ref b] below meth c H locs 99 8985 Q (F0 m 777 ls [])) : W p l e room_1 s m #[Value.ref b] below meth c H locs 99 8985 Q (F0 m 132 ls []) := by
  have hA : ∀ q : Nat, s.heap.size ≤ q → (fun q : Nat => s.heap.size ≤ q) q := fun _ h => h
  have hbA : ¬ (fun q : Nat => s.heap.size ≤ q) b := Nat.not_le.mpr hbl
  refine hI _ (fun aS aL aR aM aH aT aU aJ aN aE aY vL0 vL1 vL2 vL3 vR0 vR1 vR2 vR3 vM0 vM1 vM2 k s0 s1 s2 s3 s4 vT0 vT1 vT2 vT3 vT4 vT5 vU0 vU1 vJ0 vJ1 vN0 vN1 vN2 vE0 vE1 vE2 vE3 vE4 vE5 vE6 vY0 vY1 vY2 vY3 vY4 vY5 vY6 vY7 vY8 vY9 vY10 WW VV vD3 vD4 vD5 vD6 vD7 vD8 vD9 vD10 vD11 vD12 vD13 vD14 w vD16 vD17 vD18 vD19 vD20 vD21 vD22 ph hh hP hD hS hSt hHi hTx hWd hZt => ?_)
  have hj1 : vp_in (nI i + (1 : Int32)) L := lw_in (i := i) (j := 1) (by omega) hL
  have hj2 : vp_in (nI i + (2 : Int32)) L := lw_in (i := i) (j := 2) (by omega) hL
  have hj3 : vp_in (nI i + (3 : Int32)) L := lw_in (i := i) (j := 3) (by omega) hL
  obtain ⟨a, x0, x1, x2, x3, y0, y1, y2, y3, m0, m1, m2, k2, r, t0, t1, t2, t3, t4, V2, W2, hC, hR, hSt2, hHr⟩ := e_addChapter hHi hSt (xs (nI i + (1 : Int32)).toNatClampNeg) (xs (nI i + (2 : Int32)).toNatClampNeg) (xs (nI i + (3 : Int32)).toNatClampNeg)
  refine lv_aload_n hx hb dL_law_132 rfl (lv_at hl 1 rfl) ?_
  refine lv_aload_n hx hb dL_law_133 rfl (lv_at hl 0 rfl) ?_
  refine lv_iload_n hx hb dL_law_134 rfl (lv_at hl 3 rfl) ?_
  refine lv_iconst (v := (1 : Int32)) hx hb dL_law_135 (by decide) ?_
  refine lv_iadd hx hb dL_law_136 ?_
  refine va_sld hx hb hX hbl hbA hS hj1 dL_law_137 ?_
  refine lv_aload_n hx hb dL_law_138 rfl (lv_at hl 0 rfl) ?_
  refine lv_iload_n hx hb dL_law_139 rfl (lv_at hl 3 rfl) ?_
  refine lv_iconst (v := (2 : Int32)) hx hb dL_law_140 (by decide) ?_
  refine lv_iadd hx hb dL_law_141 ?_
  refine va_sld hx hb hX hbl hbA hS hj2 dL_law_142 ?_
  refine lv_aload_n hx hb dL_law_143 rfl (lv_at hl 0 rfl) ?_
  refine lv_iload_n hx hb dL_law_144 rfl (lv_at hl 3 rfl) ?_
  refine lv_iconst (v := (3 : Int32)) hx hb dL_law_145 (by decide) ?_
  refine lv_iadd hx hb dL_law_146 ?_
  refine va_sld hx hb hX hbl hbA hS hj3 dL_law_147 ?_
  have hp := lw_pm0 (wVC aV aS aH.1 aT.1 aU aJ aE aY.1) (wSC aS aL.1 aR.1 aM.1) (wBK cI aL vL0 vL1 vL2 vL3) (wBK cI aR vR0 vR1 vR2 vR3) (wMP cI aM vM0 vM1 vM2) (wHF cI cS aH (I k) (hRo aH 0) s0 s1 s2 s3 s4) (wTX cC aT vT0 vT1 vT2 vT3 vT4 vT5) (wRR aU vU0 vU1) (wMR aJ aN.1 vJ0 vJ1) (wMP cI aN vN0 vN1 vN2) (wRE aE vE0 vE1 vE2 vE3 vE4 vE5 vE6) (wLY cI aY vY0 vY1 vY2 vY3 vY4 vY5 vY6 vY7 vY8 vY9 vY10) (wMD cC cI aD (cz WW) (cz VV) (I k) vD3 vD4 vD5 vD6 vD7 vD8 vD9 vD10 vD11 vD12 vD13 vD14 (cz w) vD16 vD17 vD18 vD19 vD20 vD21 vD22)
  have hp2 := lw_pm0 (wVC aV aS aH.1 aT.1 aU aJ aE aY.1) (wSC aS aL.1 aR.1 aM.1) (wBK cI aL x0 x1 x2 x3) (wBK cI aR y0 y1 y2 y3) (wMP cI aM m0 m1 m2) (wHF cI cS aH (I k2) (hRo aH r) t0 t1 t2 t3 t4) (wTX cC aT vT0 vT1 vT2 vT3 vT4 vT5) (wRR aU vU0 vU1) (wMR aJ aN.1 vJ0 vJ1) (wMP cI aN vN0 vN1 vN2) (wRE aE vE0 vE1 vE2 vE3 vE4 vE5 vE6) (wLY cI aY vY0 vY1 vY2 vY3 vY4 vY5 vY6 vY7 vY8 vY9 vY10) (wMD cC cI aD (cz WW) (cz VV) (I k) vD3 vD4 vD5 vD6 vD7 vD8 vD9 vD10 vD11 vD12 vD13 vD14 (cz w) vD16 vD17 vD18 vD19 vD20 vD21 vD22)
  refine kciwQ (res := a) (ws' := (wAll cI cC cS aV aS aL aR aM aH (hRo aH r) aT aU aJ aN aE aY aD x0 x1 x2 x3 y0 y1 y2 y3 m0 m1 m2 (I k2) t0 t1 t2 t3 t4 vT0 vT1 vT2 vT3 vT4 vT5 vU0 vU1 vJ0 vJ1 vN0 vN1 vN2 vE0 vE1 vE2 vE3 vE4 vE5 vE6 vY0 vY1 vY2 vY3 vY4 vY5 vY6 vY7 vY8 vY9 vY10 (cz WW) (cz VV) (I k) vD3 vD4 vD5 vD6 vD7 vD8 vD9 vD10 vD11 vD12 vD13 vD14 (cz w) vD16 vD17 vD18 vD19 vD20 vD21 vD22)) hp hp2.symm (va_runV (As := [.int (xs (nI i + (1 : Int32)).toNatClampNeg), .int (xs (nI i + (2 : Int32)).toNatClampNeg), .int (xs (nI i + (3 : Int32)).toNatClampNeg)]) (rest := []) ⟨hx, hb, hml, hown, hts⟩ (kX9_addChapter l D cI cC cS aV aT.1 aU aJ aE aY.1 aS aL vL0 vL1 vL2 vL3 aR vR0 vR1 vR2 vR3 aM vM0 vM1 vM2 aH (I k) s0 s1 s2 s3 s4 (xs (nI i + (1 : Int32)).toNatClampNeg) (xs (nI i + (2 : Int32)).toNatClampNeg) (xs (nI i + (3 : Int32)).toNatClampNeg) H.size hC) (cwV 3 hts gL_law_X9_addChapter rfl rfl rfl (by decide +kernel) ⟨Nat.le_of_ble_eq_true rfl, Nat.le_of_ble_eq_true rfl⟩) (kpreVQ hp hK hN hP hD 9 rfl rfl) rfl rfl hl.1 rfl (lv_room (Nat.le_of_ble_eq_true rfl)) dL_law_148 ⟨Nat.le_of_ble_eq_true rfl, Nat.le_of_ble_eq_true rfl⟩) hP hD hS hA (fun H locs hP hD hS => ?_)
  clear hp2
  clear hp
  refine lv_aload_n hx hb dL_law_151 rfl (lv_at hl 2 rfl) ?_
  refine lv_aload_n hx hb dL_law_152 rfl (lv_at hl 0 rfl) ?_
  refine lv_iload_n hx hb dL_law_153 rfl (lv_at hl 3 rfl) ?_
  refine lv_iconst (v := (1 : Int32)) hx hb dL_law_154 (by decide) ?_
  refine lv_iadd hx hb dL_law_155 ?_
  refine va_sld hx hb hX hbl hbA hS hj1 dL_law_156 ?_
  refine lv_aload_n hx hb dL_law_157 rfl (lv_at hl 0 rfl) ?_
  refine lv_iload_n hx hb dL_law_158 rfl (lv_at hl 3 rfl) ?_
  refine lv_iconst (v := (2 : Int32)) hx hb dL_law_159 (by decide) ?_
  refine lv_iadd hx hb dL_law_160 ?_
  refine va_sld hx hb hX hbl hbA hS hj2 dL_law_161 ?_
  refine lv_aload_n hx hb dL_law_162 rfl (lv_at hl 0 rfl) ?_
  refine lv_iload_n hx hb dL_law_163 rfl (lv_at hl 3 rfl) ?_
  refine lv_iconst (v := (3 : Int32)) hx hb dL_law_164 (by decide) ?_
  refine lv_iadd hx hb dL_law_165 ?_
  refine va_sld hx hb hX hbl hbA hS hj3 dL_law_166 ?_
  have hp := lw_pm1 (wVC aV aS aH.1 aT.1 aU aJ aE aY.1) (wSC aS aL.1 aR.1 aM.1) (wBK cI aL x0 x1 x2 x3) (wBK cI aR y0 y1 y2 y3) (wMP cI aM m0 m1 m2) (wHF cI cS aH (I k2) (hRo aH r) t0 t1 t2 t3 t4) (wTX cC aT vT0 vT1 vT2 vT3 vT4 vT5) (wRR aU vU0 vU1) (wMR aJ aN.1 vJ0 vJ1) (wMP cI aN vN0 vN1 vN2) (wRE aE vE0 vE1 vE2 vE3 vE4 vE5 vE6) (wLY cI aY vY0 vY1 vY2 vY3 vY4 vY5 vY6 vY7 vY8 vY9 vY10) (wMD cC cI aD (cz WW) (cz VV) (I k) vD3 vD4 vD5 vD6 vD7 vD8 vD9 vD10 vD11 vD12 vD13 vD14 (cz w) vD16 vD17 vD18 vD19 vD20 vD21 vD22)
  have hp2 := lw_pm1 (wVC aV aS aH.1 aT.1 aU aJ aE aY.1) (wSC aS aL.1 aR.1 aM.1) (wBK cI aL x0 x1 x2 x3) (wBK cI aR y0 y1 y2 y3) (wMP cI aM m0 m1 m2) (wHF cI cS aH (I k2) (hRo aH r) t0 t1 t2 t3 t4) (wTX cC aT vT0 vT1 vT2 vT3 vT4 vT5) (wRR aU vU0 vU1) (wMR aJ aN.1 vJ0 vJ1) (wMP cI aN vN0 vN1 vN2) (wRE aE vE0 vE1 vE2 vE3 vE4 vE5 vE6) (wLY cI aY vY0 vY1 vY2 vY3 vY4 vY5 vY6 vY7 vY8 vY9 vY10) (wMD cC cI aD (cz W2) (cz V2) (I k2) vD3 vD4 vD5 vD6 vD7 vD8 vD9 vD10 vD11 vD12 vD13 vD14 (cz w) vD16 vD17 vD18 vD19 vD20 vD21 vD22)
  refine kciwQ (res := a) (ws' := (wAll cI cC cS aV aS aL aR aM aH (hRo aH r) aT aU aJ aN aE aY aD x0 x1 x2 x3 y0 y1 y2 y3 m0 m1 m2 (I k2) t0 t1 t2 t3 t4 vT0 vT1 vT2 vT3 vT4 vT5 vU0 vU1 vJ0 vJ1 vN0 vN1 vN2 vE0 vE1 vE2 vE3 vE4 vE5 vE6 vY0 vY1 vY2 vY3 vY4 vY5 vY6 vY7 vY8 vY9 vY10 (cz W2) (cz V2) (I k2) vD3 vD4 vD5 vD6 vD7 vD8 vD9 vD10 vD11 vD12 vD13 vD14 (cz w) vD16 vD17 vD18 vD19 vD20 vD21 vD22)) hp hp2.symm (va_runV (As := [.int (xs (nI i + (1 : Int32)).toNatClampNeg), .int (xs (nI i + (2 : Int32)).toNatClampNeg), .int (xs (nI i + (3 : Int32)).toNatClampNeg)]) (rest := [.int a]) ⟨hx, hb, hml, hown, hts⟩ (kX10_addChapter l D cI cC cS aD (cz WW) (cz VV) (I k) vD3 vD4 vD5 vD6 vD7 vD8 vD9 vD10 vD11 vD12 vD13 vD14 (cz w) vD16 vD17 vD18 vD19 vD20 vD21 vD22 (xs (nI i + (1 : Int32)).toNatClampNeg) (xs (nI i + (2 : Int32)).toNatClampNeg) (xs (nI i + (3 : Int32)).toNatClampNeg) H.size hR) (cwV 3 hts gL_law_X10_addChapter rfl rfl rfl (by decide +kernel) ⟨Nat.le_of_ble_eq_true rfl, Nat.le_of_ble_eq_true rfl⟩) (kpreVQ hp hK hN hP hD 10 rfl rfl) rfl rfl hl.1 rfl (lv_room (Nat.le_of_ble_eq_true rfl)) dL_law_167 ⟨Nat.le_of_ble_eq_true rfl, Nat.le_of_ble_eq_true rfl⟩) hP hD hS hA (fun H locs hP hD hS => ?_)
  clear hp2
  clear hp
  refine lv_icmp_eq (tgt := 777) hx hb dL_law_170 (by decide) (fun _ => ?_) (fun g => absurd rfl g)
  exact kk _ _ (lw_fin hP hD hS hSt2 hHr hTx hWd hZt)
set_option maxRecDepth 100000 in
set_option maxHeartbeats 8000000 in
theorem lw_c1 (hx : p.tables.exec = Jvm.exec) (hb : c.code = code) (hml : c.maxLocals = 4) (hown : s.vm.findClass RL = some m.cls) (hts : ∀ w ∈ wsL_law, w.before #[Value.ref b] s = true) (hX : va_X b L xs s s.heap) (hbl : b < s.heap.size) (hK : va_K D vwCl (kTy cI cC cS) s) (hN : kN s) (hI : lwI D cI cC cS s aV aD H locs) (hL : L ≤ 2560) (hi : i + 5 ≤ L) (hl : lv_has ls 4 [(0, .ref b), (1, .ref aV), (2, .ref aD.1), (3, .int (nI i))]) (kk : ∀ (H : Heap) (locs : List Loc), lwI D cI cC cS s aV aD H locs → W p l e room_1 s m #[Value.ref b] below meth c H locs 99 8985 Q (F0 m 777 ls [])) : W p l e room_1 s m #[Value.ref b] below meth c H locs 99 8985 Q (F0 m 175 ls []) := by
  have hA : ∀ q : Nat, s.heap.size ≤ q → (fun q : Nat => s.heap.size ≤ q) q := fun _ h => h
  have hbA : ¬ (fun q : Nat => s.heap.size ≤ q) b := Nat.not_le.mpr hbl
  refine hI _ (fun aS aL aR aM aH aT aU aJ aN aE aY vL0 vL1 vL2 vL3 vR0 vR1 vR2 vR3 vM0 vM1 vM2 k s0 s1 s2 s3 s4 vT0 vT1 vT2 vT3 vT4 vT5 vU0 vU1 vJ0 vJ1 vN0 vN1 vN2 vE0 vE1 vE2 vE3 vE4 vE5 vE6 vY0 vY1 vY2 vY3 vY4 vY5 vY6 vY7 vY8 vY9 vY10 WW VV vD3 vD4 vD5 vD6 vD7 vD8 vD9 vD10 vD11 vD12 vD13 vD14 w vD16 vD17 vD18 vD19 vD20 vD21 vD22 ph hh hP hD hS hSt hHi hTx hWd hZt => ?_)
  have hj1 : vp_in (nI i + (1 : Int32)) L := lw_in (i := i) (j := 1) (by omega) hL
  have hj2 : vp_in (nI i + (2 : Int32)) L := lw_in (i := i) (j := 2) (by omega) hL
  have hj3 : vp_in (nI i + (3 : Int32)) L := lw_in (i := i) (j := 3) (by omega) hL
  have hj4 : vp_in (nI i + (4 : Int32)) L := lw_in (i := i) (j := 4) (by omega) hL
  obtain ⟨a, x1, x2, y1, y2, k2, r, t0, t1, t2, t3, t4, V2, W2, hC, hR, hSt2, hHr⟩ := e_setVerse hHi hSt (xs (nI i + (1 : Int32)).toNatClampNeg) (xs (nI i + (2 : Int32)).toNatClampNeg) (xs (nI i + (3 : Int32)).toNatClampNeg) (xs (nI i + (4 : Int32)).toNatClampNeg)
  refine lv_aload_n hx hb dL_law_175 rfl (lv_at hl 1 rfl) ?_
  refine lv_aload_n hx hb dL_law_176 rfl (lv_at hl 0 rfl) ?_
  refine lv_iload_n hx hb dL_law_177 rfl (lv_at hl 3 rfl) ?_
  refine lv_iconst (v := (1 : Int32)) hx hb dL_law_178 (by decide) ?_
  refine lv_iadd hx hb dL_law_179 ?_
  refine va_sld hx hb hX hbl hbA hS hj1 dL_law_180 ?_
  refine lv_aload_n hx hb dL_law_181 rfl (lv_at hl 0 rfl) ?_
  refine lv_iload_n hx hb dL_law_182 rfl (lv_at hl 3 rfl) ?_
  refine lv_iconst (v := (2 : Int32)) hx hb dL_law_183 (by decide) ?_
  refine lv_iadd hx hb dL_law_184 ?_
  refine va_sld hx hb hX hbl hbA hS hj2 dL_law_185 ?_
  refine lv_aload_n hx hb dL_law_186 rfl (lv_at hl 0 rfl) ?_
  refine lv_iload_n hx hb dL_law_187 rfl (lv_at hl 3 rfl) ?_
  refine lv_iconst (v := (3 : Int32)) hx hb dL_law_188 (by decide) ?_
  refine lv_iadd hx hb dL_law_189 ?_
  refine va_sld hx hb hX hbl hbA hS hj3 dL_law_190 ?_
  refine lv_aload_n hx hb dL_law_191 rfl (lv_at hl 0 rfl) ?_
  refine lv_iload_n hx hb dL_law_192 rfl (lv_at hl 3 rfl) ?_
  refine lv_iconst (v := (4 : Int32)) hx hb dL_law_193 (by decide) ?_
  refine lv_iadd hx hb dL_law_194 ?_
  refine va_sld hx hb hX hbl hbA hS hj4 dL_law_195 ?_
  have hp := lw_pm0 (wVC aV aS aH.1 aT.1 aU aJ aE aY.1) (wSC aS aL.1 aR.1 aM.1) (wBK cI aL vL0 vL1 vL2 vL3) (wBK cI aR vR0 vR1 vR2 vR3) (wMP cI aM vM0 vM1 vM2) (wHF cI cS aH (I k) (hRo aH 0) s0 s1 s2 s3 s4) (wTX cC aT vT0 vT1 vT2 vT3 vT4 vT5) (wRR aU vU0 vU1) (wMR aJ aN.1 vJ0 vJ1) (wMP cI aN vN0 vN1 vN2) (wRE aE vE0 vE1 vE2 vE3 vE4 vE5 vE6) (wLY cI aY vY0 vY1 vY2 vY3 vY4 vY5 vY6 vY7 vY8 vY9 vY10) (wMD cC cI aD (cz WW) (cz VV) (I k) vD3 vD4 vD5 vD6 vD7 vD8 vD9 vD10 vD11 vD12 vD13 vD14 (cz w) vD16 vD17 vD18 vD19 vD20 vD21 vD22)
  have hp2 := lw_pm0 (wVC aV aS aH.1 aT.1 aU aJ aE aY.1) (wSC aS aL.1 aR.1 aM.1) (wBK cI aL vL0 x1 x2 vL3) (wBK cI aR vR0 y1 y2 vR3) (wMP cI aM vM0 vM1 vM2) (wHF cI cS aH (I k2) (hRo aH r) t0 t1 t2 t3 t4) (wTX cC aT vT0 vT1 vT2 vT3 vT4 vT5) (wRR aU vU0 vU1) (wMR aJ aN.1 vJ0 vJ1) (wMP cI aN vN0 vN1 vN2) (wRE aE vE0 vE1 vE2 vE3 vE4 vE5 vE6) (wLY cI aY vY0 vY1 vY2 vY3 vY4 vY5 vY6 vY7 vY8 vY9 vY10) (wMD cC cI aD (cz WW) (cz VV) (I k) vD3 vD4 vD5 vD6 vD7 vD8 vD9 vD10 vD11 vD12 vD13 vD14 (cz w) vD16 vD17 vD18 vD19 vD20 vD21 vD22)
  refine kciwQ (res := a) (ws' := (wAll cI cC cS aV aS aL aR aM aH (hRo aH r) aT aU aJ aN aE aY aD vL0 x1 x2 vL3 vR0 y1 y2 vR3 vM0 vM1 vM2 (I k2) t0 t1 t2 t3 t4 vT0 vT1 vT2 vT3 vT4 vT5 vU0 vU1 vJ0 vJ1 vN0 vN1 vN2 vE0 vE1 vE2 vE3 vE4 vE5 vE6 vY0 vY1 vY2 vY3 vY4 vY5 vY6 vY7 vY8 vY9 vY10 (cz WW) (cz VV) (I k) vD3 vD4 vD5 vD6 vD7 vD8 vD9 vD10 vD11 vD12 vD13 vD14 (cz w) vD16 vD17 vD18 vD19 vD20 vD21 vD22)) hp hp2.symm (va_runV (As := [.int (xs (nI i + (1 : Int32)).toNatClampNeg), .int (xs (nI i + (2 : Int32)).toNatClampNeg), .int (xs (nI i + (3 : Int32)).toNatClampNeg), .int (xs (nI i + (4 : Int32)).toNatClampNeg)]) (rest := []) ⟨hx, hb, hml, hown, hts⟩ (kX9_setVerse l D cI cC cS aV aT.1 aU aJ aE aY.1 aS aL vL0 vL1 vL2 vL3 aR vR0 vR1 vR2 vR3 aM vM0 vM1 vM2 aH (I k) s0 s1 s2 s3 s4 (xs (nI i + (1 : Int32)).toNatClampNeg) (xs (nI i + (2 : Int32)).toNatClampNeg) (xs (nI i + (3 : Int32)).toNatClampNeg) (xs (nI i + (4 : Int32)).toNatClampNeg) H.size hC) (cwV 4 hts gL_law_X9_setVerse rfl rfl rfl (by decide +kernel) ⟨Nat.le_of_ble_eq_true rfl, Nat.le_of_ble_eq_true rfl⟩) (kpreVQ hp hK hN hP hD 9 rfl rfl) rfl rfl hl.1 rfl (lv_room (Nat.le_of_ble_eq_true rfl)) dL_law_196 ⟨Nat.le_of_ble_eq_true rfl, Nat.le_of_ble_eq_true rfl⟩) hP hD hS hA (fun H locs hP hD hS => ?_)
  clear hp2
  clear hp
  refine lv_aload_n hx hb dL_law_199 rfl (lv_at hl 2 rfl) ?_
  refine lv_aload_n hx hb dL_law_200 rfl (lv_at hl 0 rfl) ?_
  refine lv_iload_n hx hb dL_law_201 rfl (lv_at hl 3 rfl) ?_
  refine lv_iconst (v := (1 : Int32)) hx hb dL_law_202 (by decide) ?_
  refine lv_iadd hx hb dL_law_203 ?_
  refine va_sld hx hb hX hbl hbA hS hj1 dL_law_204 ?_
  refine lv_aload_n hx hb dL_law_205 rfl (lv_at hl 0 rfl) ?_
  refine lv_iload_n hx hb dL_law_206 rfl (lv_at hl 3 rfl) ?_
  refine lv_iconst (v := (2 : Int32)) hx hb dL_law_207 (by decide) ?_
  refine lv_iadd hx hb dL_law_208 ?_
  refine va_sld hx hb hX hbl hbA hS hj2 dL_law_209 ?_
  refine lv_aload_n hx hb dL_law_210 rfl (lv_at hl 0 rfl) ?_
  refine lv_iload_n hx hb dL_law_211 rfl (lv_at hl 3 rfl) ?_
  refine lv_iconst (v := (3 : Int32)) hx hb dL_law_212 (by decide) ?_
  refine lv_iadd hx hb dL_law_213 ?_
  refine va_sld hx hb hX hbl hbA hS hj3 dL_law_214 ?_
  refine lv_aload_n hx hb dL_law_215 rfl (lv_at hl 0 rfl) ?_
  refine lv_iload_n hx hb dL_law_216 rfl (lv_at hl 3 rfl) ?_
  refine lv_iconst (v := (4 : Int32)) hx hb dL_law_217 (by decide) ?_
  refine lv_iadd hx hb dL_law_218 ?_
  refine va_sld hx hb hX hbl hbA hS hj4 dL_law_219 ?_
  have hp := lw_pm1 (wVC aV aS aH.1 aT.1 aU aJ aE aY.1) (wSC aS aL.1 aR.1 aM.1) (wBK cI aL vL0 x1 x2 vL3) (wBK cI aR vR0 y1 y2 vR3) (wMP cI aM vM0 vM1 vM2) (wHF cI cS aH (I k2) (hRo aH r) t0 t1 t2 t3 t4) (wTX cC aT vT0 vT1 vT2 vT3 vT4 vT5) (wRR aU vU0 vU1) (wMR aJ aN.1 vJ0 vJ1) (wMP cI aN vN0 vN1 vN2) (wRE aE vE0 vE1 vE2 vE3 vE4 vE5 vE6) (wLY cI aY vY0 vY1 vY2 vY3 vY4 vY5 vY6 vY7 vY8 vY9 vY10) (wMD cC cI aD (cz WW) (cz VV) (I k) vD3 vD4 vD5 vD6 vD7 vD8 vD9 vD10 vD11 vD12 vD13 vD14 (cz w) vD16 vD17 vD18 vD19 vD20 vD21 vD22)
  have hp2 := lw_pm1 (wVC aV aS aH.1 aT.1 aU aJ aE aY.1) (wSC aS aL.1 aR.1 aM.1) (wBK cI aL vL0 x1 x2 vL3) (wBK cI aR vR0 y1 y2 vR3) (wMP cI aM vM0 vM1 vM2) (wHF cI cS aH (I k2) (hRo aH r) t0 t1 t2 t3 t4) (wTX cC aT vT0 vT1 vT2 vT3 vT4 vT5) (wRR aU vU0 vU1) (wMR aJ aN.1 vJ0 vJ1) (wMP cI aN vN0 vN1 vN2) (wRE aE vE0 vE1 vE2 vE3 vE4 vE5 vE6) (wLY cI aY vY0 vY1 vY2 vY3 vY4 vY5 vY6 vY7 vY8 vY9 vY10) (wMD cC cI aD (cz W2) (cz V2) (I k2) vD3 vD4 vD5 vD6 vD7 vD8 vD9 vD10 vD11 vD12 vD13 vD14 (cz w) vD16 vD17 vD18 vD19 vD20 vD21 vD22)
  refine kciwQ (res := a) (ws' := (wAll cI cC cS aV aS aL aR aM aH (hRo aH r) aT aU aJ aN aE aY aD vL0 x1 x2 vL3 vR0 y1 y2 vR3 vM0 vM1 vM2 (I k2) t0 t1 t2 t3 t4 vT0 vT1 vT2 vT3 vT4 vT5 vU0 vU1 vJ0 vJ1 vN0 vN1 vN2 vE0 vE1 vE2 vE3 vE4 vE5 vE6 vY0 vY1 vY2 vY3 vY4 vY5 vY6 vY7 vY8 vY9 vY10 (cz W2) (cz V2) (I k2) vD3 vD4 vD5 vD6 vD7 vD8 vD9 vD10 vD11 vD12 vD13 vD14 (cz w) vD16 vD17 vD18 vD19 vD20 vD21 vD22)) hp hp2.symm (va_runV (As := [.int (xs (nI i + (1 : Int32)).toNatClampNeg), .int (xs (nI i + (2 : Int32)).toNatClampNeg), .int (xs (nI i + (3 : Int32)).toNatClampNeg), .int (xs (nI i + (4 : Int32)).toNatClampNeg)]) (rest := [.int a]) ⟨hx, hb, hml, hown, hts⟩ (kX10_setVerse l D cI cC cS aD (cz WW) (cz VV) (I k) vD3 vD4 vD5 vD6 vD7 vD8 vD9 vD10 vD11 vD12 vD13 vD14 (cz w) vD16 vD17 vD18 vD19 vD20 vD21 vD22 (xs (nI i + (1 : Int32)).toNatClampNeg) (xs (nI i + (2 : Int32)).toNatClampNeg) (xs (nI i + (3 : Int32)).toNatClampNeg) (xs (nI i + (4 : Int32)).toNatClampNeg) H.size hR) (cwV 4 hts gL_law_X10_setVerse rfl rfl rfl (by decide +kernel) ⟨Nat.le_of_ble_eq_true rfl, Nat.le_of_ble_eq_true rfl⟩) (kpreVQ hp hK hN hP hD 10 rfl rfl) rfl rfl hl.1 rfl (lv_room (Nat.le_of_ble_eq_true rfl)) dL_law_220 ⟨Nat.le_of_ble_eq_true rfl, Nat.le_of_ble_eq_true rfl⟩) hP hD hS hA (fun H locs hP hD hS => ?_)
  clear hp2
  clear hp
  refine lv_icmp_eq (tgt := 777) hx hb dL_law_223 (by decide) (fun _ => ?_) (fun g => absurd rfl g)
  exact kk _ _ (lw_fin hP hD hS hSt2 hHr hTx hWd hZt)
set_option maxRecDepth 100000 in
set_option maxHeartbeats 8000000 in
theorem lw_c2 (hx : p.tables.exec = Jvm.exec) (hb : c.code = code) (hml : c.maxLocals = 4) (hown : s.vm.findClass RL = some m.cls) (hts : ∀ w ∈ wsL_law, w.before #[Value.ref b] s = true) (hX : va_X b L xs s s.heap) (hbl : b < s.heap.size) (hK : va_K D vwCl (kTy cI cC cS) s) (hN : kN s) (hI : lwI D cI cC cS s aV aD H locs) (hL : L ≤ 2560) (hi : i + 5 ≤ L) (hl : lv_has ls 4 [(0, .ref b), (1, .ref aV), (2, .ref aD.1), (3, .int (nI i))]) (kk : ∀ (H : Heap) (locs : List Loc), lwI D cI cC cS s aV aD H locs → W p l e room_1 s m #[Value.ref b] below meth c H locs 99 8985 Q (F0 m 777 ls [])) : W p l e room_1 s m #[Value.ref b] below meth c H locs 99 8985 Q (F0 m 228 ls []) := by
  have hA : ∀ q : Nat, s.heap.size ≤ q → (fun q : Nat => s.heap.size ≤ q) q := fun _ h => h
  have hbA : ¬ (fun q : Nat => s.heap.size ≤ q) b := Nat.not_le.mpr hbl
  refine hI _ (fun aS aL aR aM aH aT aU aJ aN aE aY vL0 vL1 vL2 vL3 vR0 vR1 vR2 vR3 vM0 vM1 vM2 k s0 s1 s2 s3 s4 vT0 vT1 vT2 vT3 vT4 vT5 vU0 vU1 vJ0 vJ1 vN0 vN1 vN2 vE0 vE1 vE2 vE3 vE4 vE5 vE6 vY0 vY1 vY2 vY3 vY4 vY5 vY6 vY7 vY8 vY9 vY10 WW VV vD3 vD4 vD5 vD6 vD7 vD8 vD9 vD10 vD11 vD12 vD13 vD14 w vD16 vD17 vD18 vD19 vD20 vD21 vD22 ph hh hP hD hS hSt hHi hTx hWd hZt => ?_)
  have hj1 : vp_in (nI i + (1 : Int32)) L := lw_in (i := i) (j := 1) (by omega) hL
  have hj2 : vp_in (nI i + (2 : Int32)) L := lw_in (i := i) (j := 2) (by omega) hL
  obtain ⟨a, x0, x1, x2, x3, y0, y1, y2, y3, m0, m1, m2, k2, r, t0, t1, t2, t3, t4, V2, W2, hC, hR, hSt2, hHr⟩ := e_joinVerses hHi hSt (xs (nI i + (1 : Int32)).toNatClampNeg) (xs (nI i + (2 : Int32)).toNatClampNeg)
  refine lv_aload_n hx hb dL_law_228 rfl (lv_at hl 1 rfl) ?_
  refine lv_aload_n hx hb dL_law_229 rfl (lv_at hl 0 rfl) ?_
  refine lv_iload_n hx hb dL_law_230 rfl (lv_at hl 3 rfl) ?_
  refine lv_iconst (v := (1 : Int32)) hx hb dL_law_231 (by decide) ?_
  refine lv_iadd hx hb dL_law_232 ?_
  refine va_sld hx hb hX hbl hbA hS hj1 dL_law_233 ?_
  refine lv_aload_n hx hb dL_law_234 rfl (lv_at hl 0 rfl) ?_
  refine lv_iload_n hx hb dL_law_235 rfl (lv_at hl 3 rfl) ?_
  refine lv_iconst (v := (2 : Int32)) hx hb dL_law_236 (by decide) ?_
  refine lv_iadd hx hb dL_law_237 ?_
  refine va_sld hx hb hX hbl hbA hS hj2 dL_law_238 ?_
  have hp := lw_pm0 (wVC aV aS aH.1 aT.1 aU aJ aE aY.1) (wSC aS aL.1 aR.1 aM.1) (wBK cI aL vL0 vL1 vL2 vL3) (wBK cI aR vR0 vR1 vR2 vR3) (wMP cI aM vM0 vM1 vM2) (wHF cI cS aH (I k) (hRo aH 0) s0 s1 s2 s3 s4) (wTX cC aT vT0 vT1 vT2 vT3 vT4 vT5) (wRR aU vU0 vU1) (wMR aJ aN.1 vJ0 vJ1) (wMP cI aN vN0 vN1 vN2) (wRE aE vE0 vE1 vE2 vE3 vE4 vE5 vE6) (wLY cI aY vY0 vY1 vY2 vY3 vY4 vY5 vY6 vY7 vY8 vY9 vY10) (wMD cC cI aD (cz WW) (cz VV) (I k) vD3 vD4 vD5 vD6 vD7 vD8 vD9 vD10 vD11 vD12 vD13 vD14 (cz w) vD16 vD17 vD18 vD19 vD20 vD21 vD22)
  have hp2 := lw_pm0 (wVC aV aS aH.1 aT.1 aU aJ aE aY.1) (wSC aS aL.1 aR.1 aM.1) (wBK cI aL x0 x1 x2 x3) (wBK cI aR y0 y1 y2 y3) (wMP cI aM m0 m1 m2) (wHF cI cS aH (I k2) (hRo aH r) t0 t1 t2 t3 t4) (wTX cC aT vT0 vT1 vT2 vT3 vT4 vT5) (wRR aU vU0 vU1) (wMR aJ aN.1 vJ0 vJ1) (wMP cI aN vN0 vN1 vN2) (wRE aE vE0 vE1 vE2 vE3 vE4 vE5 vE6) (wLY cI aY vY0 vY1 vY2 vY3 vY4 vY5 vY6 vY7 vY8 vY9 vY10) (wMD cC cI aD (cz WW) (cz VV) (I k) vD3 vD4 vD5 vD6 vD7 vD8 vD9 vD10 vD11 vD12 vD13 vD14 (cz w) vD16 vD17 vD18 vD19 vD20 vD21 vD22)
  refine kciwQ (res := a) (ws' := (wAll cI cC cS aV aS aL aR aM aH (hRo aH r) aT aU aJ aN aE aY aD x0 x1 x2 x3 y0 y1 y2 y3 m0 m1 m2 (I k2) t0 t1 t2 t3 t4 vT0 vT1 vT2 vT3 vT4 vT5 vU0 vU1 vJ0 vJ1 vN0 vN1 vN2 vE0 vE1 vE2 vE3 vE4 vE5 vE6 vY0 vY1 vY2 vY3 vY4 vY5 vY6 vY7 vY8 vY9 vY10 (cz WW) (cz VV) (I k) vD3 vD4 vD5 vD6 vD7 vD8 vD9 vD10 vD11 vD12 vD13 vD14 (cz w) vD16 vD17 vD18 vD19 vD20 vD21 vD22)) hp hp2.symm (va_runV (As := [.int (xs (nI i + (1 : Int32)).toNatClampNeg), .int (xs (nI i + (2 : Int32)).toNatClampNeg)]) (rest := []) ⟨hx, hb, hml, hown, hts⟩ (kX9_joinVerses l D cI cC cS aV aT.1 aU aJ aE aY.1 aS aL vL0 vL1 vL2 vL3 aR vR0 vR1 vR2 vR3 aM vM0 vM1 vM2 aH (I k) s0 s1 s2 s3 s4 (xs (nI i + (1 : Int32)).toNatClampNeg) (xs (nI i + (2 : Int32)).toNatClampNeg) H.size hC) (cwV 2 hts gL_law_X9_joinVerses rfl rfl rfl (by decide +kernel) ⟨Nat.le_of_ble_eq_true rfl, Nat.le_of_ble_eq_true rfl⟩) (kpreVQ hp hK hN hP hD 9 rfl rfl) rfl rfl hl.1 rfl (lv_room (Nat.le_of_ble_eq_true rfl)) dL_law_239 ⟨Nat.le_of_ble_eq_true rfl, Nat.le_of_ble_eq_true rfl⟩) hP hD hS hA (fun H locs hP hD hS => ?_)
  clear hp2
  clear hp
  refine lv_aload_n hx hb dL_law_242 rfl (lv_at hl 2 rfl) ?_
  refine lv_aload_n hx hb dL_law_243 rfl (lv_at hl 0 rfl) ?_
  refine lv_iload_n hx hb dL_law_244 rfl (lv_at hl 3 rfl) ?_
  refine lv_iconst (v := (1 : Int32)) hx hb dL_law_245 (by decide) ?_
  refine lv_iadd hx hb dL_law_246 ?_
  refine va_sld hx hb hX hbl hbA hS hj1 dL_law_247 ?_
  refine lv_aload_n hx hb dL_law_248 rfl (lv_at hl 0 rfl) ?_
  refine lv_iload_n hx hb dL_law_249 rfl (lv_at hl 3 rfl) ?_
  refine lv_iconst (v := (2 : Int32)) hx hb dL_law_250 (by decide) ?_
  refine lv_iadd hx hb dL_law_251 ?_
  refine va_sld hx hb hX hbl hbA hS hj2 dL_law_252 ?_
  have hp := lw_pm1 (wVC aV aS aH.1 aT.1 aU aJ aE aY.1) (wSC aS aL.1 aR.1 aM.1) (wBK cI aL x0 x1 x2 x3) (wBK cI aR y0 y1 y2 y3) (wMP cI aM m0 m1 m2) (wHF cI cS aH (I k2) (hRo aH r) t0 t1 t2 t3 t4) (wTX cC aT vT0 vT1 vT2 vT3 vT4 vT5) (wRR aU vU0 vU1) (wMR aJ aN.1 vJ0 vJ1) (wMP cI aN vN0 vN1 vN2) (wRE aE vE0 vE1 vE2 vE3 vE4 vE5 vE6) (wLY cI aY vY0 vY1 vY2 vY3 vY4 vY5 vY6 vY7 vY8 vY9 vY10) (wMD cC cI aD (cz WW) (cz VV) (I k) vD3 vD4 vD5 vD6 vD7 vD8 vD9 vD10 vD11 vD12 vD13 vD14 (cz w) vD16 vD17 vD18 vD19 vD20 vD21 vD22)
  have hp2 := lw_pm1 (wVC aV aS aH.1 aT.1 aU aJ aE aY.1) (wSC aS aL.1 aR.1 aM.1) (wBK cI aL x0 x1 x2 x3) (wBK cI aR y0 y1 y2 y3) (wMP cI aM m0 m1 m2) (wHF cI cS aH (I k2) (hRo aH r) t0 t1 t2 t3 t4) (wTX cC aT vT0 vT1 vT2 vT3 vT4 vT5) (wRR aU vU0 vU1) (wMR aJ aN.1 vJ0 vJ1) (wMP cI aN vN0 vN1 vN2) (wRE aE vE0 vE1 vE2 vE3 vE4 vE5 vE6) (wLY cI aY vY0 vY1 vY2 vY3 vY4 vY5 vY6 vY7 vY8 vY9 vY10) (wMD cC cI aD (cz W2) (cz V2) (I k2) vD3 vD4 vD5 vD6 vD7 vD8 vD9 vD10 vD11 vD12 vD13 vD14 (cz w) vD16 vD17 vD18 vD19 vD20 vD21 vD22)
  refine kciwQ (res := a) (ws' := (wAll cI cC cS aV aS aL aR aM aH (hRo aH r) aT aU aJ aN aE aY aD x0 x1 x2 x3 y0 y1 y2 y3 m0 m1 m2 (I k2) t0 t1 t2 t3 t4 vT0 vT1 vT2 vT3 vT4 vT5 vU0 vU1 vJ0 vJ1 vN0 vN1 vN2 vE0 vE1 vE2 vE3 vE4 vE5 vE6 vY0 vY1 vY2 vY3 vY4 vY5 vY6 vY7 vY8 vY9 vY10 (cz W2) (cz V2) (I k2) vD3 vD4 vD5 vD6 vD7 vD8 vD9 vD10 vD11 vD12 vD13 vD14 (cz w) vD16 vD17 vD18 vD19 vD20 vD21 vD22)) hp hp2.symm (va_runV (As := [.int (xs (nI i + (1 : Int32)).toNatClampNeg), .int (xs (nI i + (2 : Int32)).toNatClampNeg)]) (rest := [.int a]) ⟨hx, hb, hml, hown, hts⟩ (kX10_joinVerses l D cI cC cS aD (cz WW) (cz VV) (I k) vD3 vD4 vD5 vD6 vD7 vD8 vD9 vD10 vD11 vD12 vD13 vD14 (cz w) vD16 vD17 vD18 vD19 vD20 vD21 vD22 (xs (nI i + (1 : Int32)).toNatClampNeg) (xs (nI i + (2 : Int32)).toNatClampNeg) H.size hR) (cwV 2 hts gL_law_X10_joinVerses rfl rfl rfl (by decide +kernel) ⟨Nat.le_of_ble_eq_true rfl, Nat.le_of_ble_eq_true rfl⟩) (kpreVQ hp hK hN hP hD 10 rfl rfl) rfl rfl hl.1 rfl (lv_room (Nat.le_of_ble_eq_true rfl)) dL_law_253 ⟨Nat.le_of_ble_eq_true rfl, Nat.le_of_ble_eq_true rfl⟩) hP hD hS hA (fun H locs hP hD hS => ?_)
  clear hp2
  clear hp
  refine lv_icmp_eq (tgt := 777) hx hb dL_law_256 (by decide) (fun _ => ?_) (fun g => absurd rfl g)
  exact kk _ _ (lw_fin hP hD hS hSt2 hHr hTx hWd hZt)
set_option maxRecDepth 100000 in
set_option maxHeartbeats 8000000 in
theorem lw_c3 (hx : p.tables.exec = Jvm.exec) (hb : c.code = code) (hml : c.maxLocals = 4) (hown : s.vm.findClass RL = some m.cls) (hts : ∀ w ∈ wsL_law, w.before #[Value.ref b] s = true) (hX : va_X b L xs s s.heap) (hbl : b < s.heap.size) (hK : va_K D vwCl (kTy cI cC cS) s) (hN : kN s) (hI : lwI D cI cC cS s aV aD H locs) (hL : L ≤ 2560) (hi : i + 5 ≤ L) (hl : lv_has ls 4 [(0, .ref b), (1, .ref aV), (2, .ref aD.1), (3, .int (nI i))]) (kk : ∀ (H : Heap) (locs : List Loc), lwI D cI cC cS s aV aD H locs → W p l e room_1 s m #[Value.ref b] below meth c H locs 99 8985 Q (F0 m 777 ls [])) : W p l e room_1 s m #[Value.ref b] below meth c H locs 99 8985 Q (F0 m 261 ls []) := by
  have hA : ∀ q : Nat, s.heap.size ≤ q → (fun q : Nat => s.heap.size ≤ q) q := fun _ h => h
  have hbA : ¬ (fun q : Nat => s.heap.size ≤ q) b := Nat.not_le.mpr hbl
  refine hI _ (fun aS aL aR aM aH aT aU aJ aN aE aY vL0 vL1 vL2 vL3 vR0 vR1 vR2 vR3 vM0 vM1 vM2 k s0 s1 s2 s3 s4 vT0 vT1 vT2 vT3 vT4 vT5 vU0 vU1 vJ0 vJ1 vN0 vN1 vN2 vE0 vE1 vE2 vE3 vE4 vE5 vE6 vY0 vY1 vY2 vY3 vY4 vY5 vY6 vY7 vY8 vY9 vY10 WW VV vD3 vD4 vD5 vD6 vD7 vD8 vD9 vD10 vD11 vD12 vD13 vD14 w vD16 vD17 vD18 vD19 vD20 vD21 vD22 ph hh hP hD hS hSt hHi hTx hWd hZt => ?_)
  have hj1 : vp_in (nI i + (1 : Int32)) L := lw_in (i := i) (j := 1) (by omega) hL
  have hj2 : vp_in (nI i + (2 : Int32)) L := lw_in (i := i) (j := 2) (by omega) hL
  have hj3 : vp_in (nI i + (3 : Int32)) L := lw_in (i := i) (j := 3) (by omega) hL
  obtain ⟨a, x0, x1, x2, x3, y0, y1, y2, y3, m0, m1, k2, r, t0, t1, t2, t3, t4, V2, W2, hC, hR, hSt2, hHr⟩ := e_splitVerse hHi hSt (xs (nI i + (1 : Int32)).toNatClampNeg) (xs (nI i + (2 : Int32)).toNatClampNeg) (xs (nI i + (3 : Int32)).toNatClampNeg)
  refine lv_aload_n hx hb dL_law_261 rfl (lv_at hl 1 rfl) ?_
  refine lv_aload_n hx hb dL_law_262 rfl (lv_at hl 0 rfl) ?_
  refine lv_iload_n hx hb dL_law_263 rfl (lv_at hl 3 rfl) ?_
  refine lv_iconst (v := (1 : Int32)) hx hb dL_law_264 (by decide) ?_
  refine lv_iadd hx hb dL_law_265 ?_
  refine va_sld hx hb hX hbl hbA hS hj1 dL_law_266 ?_
  refine lv_aload_n hx hb dL_law_267 rfl (lv_at hl 0 rfl) ?_
  refine lv_iload_n hx hb dL_law_268 rfl (lv_at hl 3 rfl) ?_
  refine lv_iconst (v := (2 : Int32)) hx hb dL_law_269 (by decide) ?_
  refine lv_iadd hx hb dL_law_270 ?_
  refine va_sld hx hb hX hbl hbA hS hj2 dL_law_271 ?_
  refine lv_aload_n hx hb dL_law_272 rfl (lv_at hl 0 rfl) ?_
  refine lv_iload_n hx hb dL_law_273 rfl (lv_at hl 3 rfl) ?_
  refine lv_iconst (v := (3 : Int32)) hx hb dL_law_274 (by decide) ?_
  refine lv_iadd hx hb dL_law_275 ?_
  refine va_sld hx hb hX hbl hbA hS hj3 dL_law_276 ?_
  have hp := lw_pm0 (wVC aV aS aH.1 aT.1 aU aJ aE aY.1) (wSC aS aL.1 aR.1 aM.1) (wBK cI aL vL0 vL1 vL2 vL3) (wBK cI aR vR0 vR1 vR2 vR3) (wMP cI aM vM0 vM1 vM2) (wHF cI cS aH (I k) (hRo aH 0) s0 s1 s2 s3 s4) (wTX cC aT vT0 vT1 vT2 vT3 vT4 vT5) (wRR aU vU0 vU1) (wMR aJ aN.1 vJ0 vJ1) (wMP cI aN vN0 vN1 vN2) (wRE aE vE0 vE1 vE2 vE3 vE4 vE5 vE6) (wLY cI aY vY0 vY1 vY2 vY3 vY4 vY5 vY6 vY7 vY8 vY9 vY10) (wMD cC cI aD (cz WW) (cz VV) (I k) vD3 vD4 vD5 vD6 vD7 vD8 vD9 vD10 vD11 vD12 vD13 vD14 (cz w) vD16 vD17 vD18 vD19 vD20 vD21 vD22)
  have hp2 := lw_pm0 (wVC aV aS aH.1 aT.1 aU aJ aE aY.1) (wSC aS aL.1 aR.1 aM.1) (wBK cI aL x0 x1 x2 x3) (wBK cI aR y0 y1 y2 y3) (wMP cI aM m0 m1 vM2) (wHF cI cS aH (I k2) (hRo aH r) t0 t1 t2 t3 t4) (wTX cC aT vT0 vT1 vT2 vT3 vT4 vT5) (wRR aU vU0 vU1) (wMR aJ aN.1 vJ0 vJ1) (wMP cI aN vN0 vN1 vN2) (wRE aE vE0 vE1 vE2 vE3 vE4 vE5 vE6) (wLY cI aY vY0 vY1 vY2 vY3 vY4 vY5 vY6 vY7 vY8 vY9 vY10) (wMD cC cI aD (cz WW) (cz VV) (I k) vD3 vD4 vD5 vD6 vD7 vD8 vD9 vD10 vD11 vD12 vD13 vD14 (cz w) vD16 vD17 vD18 vD19 vD20 vD21 vD22)
  refine kciwQ (res := a) (ws' := (wAll cI cC cS aV aS aL aR aM aH (hRo aH r) aT aU aJ aN aE aY aD x0 x1 x2 x3 y0 y1 y2 y3 m0 m1 vM2 (I k2) t0 t1 t2 t3 t4 vT0 vT1 vT2 vT3 vT4 vT5 vU0 vU1 vJ0 vJ1 vN0 vN1 vN2 vE0 vE1 vE2 vE3 vE4 vE5 vE6 vY0 vY1 vY2 vY3 vY4 vY5 vY6 vY7 vY8 vY9 vY10 (cz WW) (cz VV) (I k) vD3 vD4 vD5 vD6 vD7 vD8 vD9 vD10 vD11 vD12 vD13 vD14 (cz w) vD16 vD17 vD18 vD19 vD20 vD21 vD22)) hp hp2.symm (va_runV (As := [.int (xs (nI i + (1 : Int32)).toNatClampNeg), .int (xs (nI i + (2 : Int32)).toNatClampNeg), .int (xs (nI i + (3 : Int32)).toNatClampNeg)]) (rest := []) ⟨hx, hb, hml, hown, hts⟩ (kX9_splitVerse l D cI cC cS aV aT.1 aU aJ aE aY.1 aS aL vL0 vL1 vL2 vL3 aR vR0 vR1 vR2 vR3 aM vM0 vM1 vM2 aH (I k) s0 s1 s2 s3 s4 (xs (nI i + (1 : Int32)).toNatClampNeg) (xs (nI i + (2 : Int32)).toNatClampNeg) (xs (nI i + (3 : Int32)).toNatClampNeg) H.size hC) (cwV 3 hts gL_law_X9_splitVerse rfl rfl rfl (by decide +kernel) ⟨Nat.le_of_ble_eq_true rfl, Nat.le_of_ble_eq_true rfl⟩) (kpreVQ hp hK hN hP hD 9 rfl rfl) rfl rfl hl.1 rfl (lv_room (Nat.le_of_ble_eq_true rfl)) dL_law_277 ⟨Nat.le_of_ble_eq_true rfl, Nat.le_of_ble_eq_true rfl⟩) hP hD hS hA (fun H locs hP hD hS => ?_)
  clear hp2
  clear hp
  refine lv_aload_n hx hb dL_law_280 rfl (lv_at hl 2 rfl) ?_
  refine lv_aload_n hx hb dL_law_281 rfl (lv_at hl 0 rfl) ?_
  refine lv_iload_n hx hb dL_law_282 rfl (lv_at hl 3 rfl) ?_
  refine lv_iconst (v := (1 : Int32)) hx hb dL_law_283 (by decide) ?_
  refine lv_iadd hx hb dL_law_284 ?_
  refine va_sld hx hb hX hbl hbA hS hj1 dL_law_285 ?_
  refine lv_aload_n hx hb dL_law_286 rfl (lv_at hl 0 rfl) ?_
  refine lv_iload_n hx hb dL_law_287 rfl (lv_at hl 3 rfl) ?_
  refine lv_iconst (v := (2 : Int32)) hx hb dL_law_288 (by decide) ?_
  refine lv_iadd hx hb dL_law_289 ?_
  refine va_sld hx hb hX hbl hbA hS hj2 dL_law_290 ?_
  refine lv_aload_n hx hb dL_law_291 rfl (lv_at hl 0 rfl) ?_
  refine lv_iload_n hx hb dL_law_292 rfl (lv_at hl 3 rfl) ?_
  refine lv_iconst (v := (3 : Int32)) hx hb dL_law_293 (by decide) ?_
  refine lv_iadd hx hb dL_law_294 ?_
  refine va_sld hx hb hX hbl hbA hS hj3 dL_law_295 ?_
  have hp := lw_pm1 (wVC aV aS aH.1 aT.1 aU aJ aE aY.1) (wSC aS aL.1 aR.1 aM.1) (wBK cI aL x0 x1 x2 x3) (wBK cI aR y0 y1 y2 y3) (wMP cI aM m0 m1 vM2) (wHF cI cS aH (I k2) (hRo aH r) t0 t1 t2 t3 t4) (wTX cC aT vT0 vT1 vT2 vT3 vT4 vT5) (wRR aU vU0 vU1) (wMR aJ aN.1 vJ0 vJ1) (wMP cI aN vN0 vN1 vN2) (wRE aE vE0 vE1 vE2 vE3 vE4 vE5 vE6) (wLY cI aY vY0 vY1 vY2 vY3 vY4 vY5 vY6 vY7 vY8 vY9 vY10) (wMD cC cI aD (cz WW) (cz VV) (I k) vD3 vD4 vD5 vD6 vD7 vD8 vD9 vD10 vD11 vD12 vD13 vD14 (cz w) vD16 vD17 vD18 vD19 vD20 vD21 vD22)
  have hp2 := lw_pm1 (wVC aV aS aH.1 aT.1 aU aJ aE aY.1) (wSC aS aL.1 aR.1 aM.1) (wBK cI aL x0 x1 x2 x3) (wBK cI aR y0 y1 y2 y3) (wMP cI aM m0 m1 vM2) (wHF cI cS aH (I k2) (hRo aH r) t0 t1 t2 t3 t4) (wTX cC aT vT0 vT1 vT2 vT3 vT4 vT5) (wRR aU vU0 vU1) (wMR aJ aN.1 vJ0 vJ1) (wMP cI aN vN0 vN1 vN2) (wRE aE vE0 vE1 vE2 vE3 vE4 vE5 vE6) (wLY cI aY vY0 vY1 vY2 vY3 vY4 vY5 vY6 vY7 vY8 vY9 vY10) (wMD cC cI aD (cz W2) (cz V2) (I k2) vD3 vD4 vD5 vD6 vD7 vD8 vD9 vD10 vD11 vD12 vD13 vD14 (cz w) vD16 vD17 vD18 vD19 vD20 vD21 vD22)
  refine kciwQ (res := a) (ws' := (wAll cI cC cS aV aS aL aR aM aH (hRo aH r) aT aU aJ aN aE aY aD x0 x1 x2 x3 y0 y1 y2 y3 m0 m1 vM2 (I k2) t0 t1 t2 t3 t4 vT0 vT1 vT2 vT3 vT4 vT5 vU0 vU1 vJ0 vJ1 vN0 vN1 vN2 vE0 vE1 vE2 vE3 vE4 vE5 vE6 vY0 vY1 vY2 vY3 vY4 vY5 vY6 vY7 vY8 vY9 vY10 (cz W2) (cz V2) (I k2) vD3 vD4 vD5 vD6 vD7 vD8 vD9 vD10 vD11 vD12 vD13 vD14 (cz w) vD16 vD17 vD18 vD19 vD20 vD21 vD22)) hp hp2.symm (va_runV (As := [.int (xs (nI i + (1 : Int32)).toNatClampNeg), .int (xs (nI i + (2 : Int32)).toNatClampNeg), .int (xs (nI i + (3 : Int32)).toNatClampNeg)]) (rest := [.int a]) ⟨hx, hb, hml, hown, hts⟩ (kX10_splitVerse l D cI cC cS aD (cz WW) (cz VV) (I k) vD3 vD4 vD5 vD6 vD7 vD8 vD9 vD10 vD11 vD12 vD13 vD14 (cz w) vD16 vD17 vD18 vD19 vD20 vD21 vD22 (xs (nI i + (1 : Int32)).toNatClampNeg) (xs (nI i + (2 : Int32)).toNatClampNeg) (xs (nI i + (3 : Int32)).toNatClampNeg) H.size hR) (cwV 3 hts gL_law_X10_splitVerse rfl rfl rfl (by decide +kernel) ⟨Nat.le_of_ble_eq_true rfl, Nat.le_of_ble_eq_true rfl⟩) (kpreVQ hp hK hN hP hD 10 rfl rfl) rfl rfl hl.1 rfl (lv_room (Nat.le_of_ble_eq_true rfl)) dL_law_296 ⟨Nat.le_of_ble_eq_true rfl, Nat.le_of_ble_eq_true rfl⟩) hP hD hS hA (fun H locs hP hD hS => ?_)
  clear hp2
  clear hp
  refine lv_icmp_eq (tgt := 777) hx hb dL_law_299 (by decide) (fun _ => ?_) (fun g => absurd rfl g)
  exact kk _ _ (lw_fin hP hD hS hSt2 hHr hTx hWd hZt)
end LAW
