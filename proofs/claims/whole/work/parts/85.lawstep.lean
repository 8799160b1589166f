theorem lwI.hS {D : va_G} {cI cC cS : ClassId} {s : State} {aV : Nat} {aD : Nat × Nat × Nat × Nat × Nat × Nat × Nat × Nat × Nat × Nat × Nat} {H : Heap} {locs : List Loc} (h : lwI D cI cC cS s aV aD H locs) : va_S (fun q : Nat => s.heap.size ≤ q) s.heap H locs := by
  exact h _ (fun aS aL aR aM aH aT aU aJ aN aE aY vL0 vL1 vL2 vL3 vR0 vR1 vR2 vR3 vM0 vM1 vM2 k s0 s1 s2 s3 s4 vT0 vT1 vT2 vT3 vT4 vT5 vU0 vU1 vJ0 vJ1 vN0 vN1 vN2 vE0 vE1 vE2 vE3 vE4 vE5 vE6 vY0 vY1 vY2 vY3 vY4 vY5 vY6 vY7 vY8 vY9 vY10 WW VV vD3 vD4 vD5 vD6 vD7 vD8 vD9 vD10 vD11 vD12 vD13 vD14 w vD16 vD17 vD18 vD19 vD20 vD21 vD22 ph hh hP hD hS hSt hHi hTx hWd hZt => hS)
section LAW
variable {p : Program} {l : Launch} {e : Env} {s : State} {m : MethodId} {below : List Frame} {meth : Method} {c : Code} {D : va_G} {cI cC cS : ClassId} {aV : Nat} {aD : Nat × Nat × Nat × Nat × Nat × Nat × Nat × Nat × Nat × Nat × Nat} {b L i : Nat} {xs : Nat → Int32} {Q : State → Prop} {ls : Array Slot} {H : Heap} {locs : List Loc}
theorem lw_gt {i L : Nat} (hi : i ≤ 4000) (hL : L ≤ 2560) : (nI L - (5 : Int32) < nI i) = (L < i + 5) := by
  have e1 : nI L = I (L : Int) := I_ofNat L
  have e2 : nI i = I (i : Int) := I_ofNat i
  rw [e1, e2, show (5 : Int32) = I 5 from rfl, I_sub, I_lt (by omega)]
  exact propext ⟨fun h => by omega, fun h => by omega⟩
set_option maxRecDepth 100000 in
set_option maxHeartbeats 8000000 in
theorem lw_step (hx : p.tables.exec = Jvm.exec) (hb : c.code = code) (hml : c.maxLocals = 4) (hown : s.vm.findClass RL = some m.cls) (hts : ∀ w ∈ wsL_law, w.before #[Value.ref b] s = true) (hX : va_X b L xs s s.heap) (hbl : b < s.heap.size) (hK : va_K D vwCl (kTy cI cC cS) s) (hN : kN s) (hI : lwI D cI cC cS s aV aD H locs) (hL : L ≤ 2560) (hi : i + 5 ≤ L) (hl : lv_has ls 4 [(0, .ref b), (1, .ref aV), (2, .ref aD.1), (3, .int (nI i))]) (kk : ∀ (H : Heap) (locs : List Loc), lwI D cI cC cS s aV aD H locs → W p l e room_1 s m #[Value.ref b] below meth c H locs 99 8985 Q (F0 m 777 ls [])) : W p l e room_1 s m #[Value.ref b] below meth c H locs 99 8985 Q (F0 m 26 ls []) := by
  have hbA : ¬ (fun q : Nat => s.heap.size ≤ q) b := Nat.not_le.mpr hbl
  have hS : va_S (fun q : Nat => s.heap.size ≤ q) s.heap H locs := hI.hS
  have h0 : vp_in (nI i) L := vp_in_nI (by omega) (by omega)
  refine lv_aload_n hx hb dL_law_26 rfl (lv_at hl 0 rfl) ?_
  refine lv_iload_n hx hb dL_law_27 rfl (lv_at hl 3 rfl) ?_
  refine va_sld hx hb hX hbl hbA hS h0 dL_law_28 ?_
  refine lv_bipush (v := (31 : Int32)) hx hb dL_law_29 (by decide) ?_
  refine lv_iand hx hb dL_law_31 ?_
  generalize (xs (nI i).toNatClampNeg) &&& (31 : Int32) = x
  by_cases h : x.toInt < 0 ∨ 20 < x.toInt
  · refine lv_tableOut (tgt := 777) hx hb dL_law_32 h (by decide) ?_
    exact kk _ _ hI
  · have h1 : ¬ x.toInt < 0 := fun q => h (Or.inl q)
    have h2 : ¬ 20 < x.toInt := fun q => h (Or.inr q)
    obtain ⟨t, ht⟩ : ∃ t : Int, x.toInt = t := ⟨_, rfl⟩
    rw [ht] at h1 h2
    have h3 : t = 0 ∨ t = 1 ∨ t = 2 ∨ t = 3 ∨ t = 4 ∨ t = 5 ∨ t = 6 ∨ t = 7 ∨ t = 8 ∨ t = 9 ∨ t = 10 ∨ t = 11 ∨ t = 12 ∨ t = 13 ∨ t = 14 ∨ t = 15 ∨ t = 16 ∨ t = 17 ∨ t = 18 ∨ t = 19 ∨ t = 20 := by omega
    rcases h3 with h3 | h3 | h3 | h3 | h3 | h3 | h3 | h3 | h3 | h3 | h3 | h3 | h3 | h3 | h3 | h3 | h3 | h3 | h3 | h3 | h3
    · refine lv_tableIn (off := 100) (tgt := 132) hx hb dL_law_32 (by rw [ht]; exact h1) (by rw [ht]; exact h2) (by rw [ht, h3]; rfl) (by decide) ?_
      exact lw_c0 hx hb hml hown hts hX hbl hK hN hI hL hi hl kk
    · refine lv_tableIn (off := 143) (tgt := 175) hx hb dL_law_32 (by rw [ht]; exact h1) (by rw [ht]; exact h2) (by rw [ht, h3]; rfl) (by decide) ?_
      exact lw_c1 hx hb hml hown hts hX hbl hK hN hI hL hi hl kk
    · refine lv_tableIn (off := 196) (tgt := 228) hx hb dL_law_32 (by rw [ht]; exact h1) (by rw [ht]; exact h2) (by rw [ht, h3]; rfl) (by decide) ?_
      exact lw_c2 hx hb hml hown hts hX hbl hK hN hI hL hi hl kk
    · refine lv_tableIn (off := 229) (tgt := 261) hx hb dL_law_32 (by rw [ht]; exact h1) (by rw [ht]; exact h2) (by rw [ht, h3]; rfl) (by decide) ?_
      exact lw_c3 hx hb hml hown hts hX hbl hK hN hI hL hi hl kk
    · refine lv_tableIn (off := 272) (tgt := 304) hx hb dL_law_32 (by rw [ht]; exact h1) (by rw [ht]; exact h2) (by rw [ht, h3]; rfl) (by decide) ?_
      exact lw_c4 hx hb hml hown hts hX hbl hK hN hI hL hi hl kk
    · refine lv_tableIn (off := 295) (tgt := 327) hx hb dL_law_32 (by rw [ht]; exact h1) (by rw [ht]; exact h2) (by rw [ht, h3]; rfl) (by decide) ?_
      exact lw_c5 hx hb hml hown hts hX hbl hK hN hI hL hi hl kk
    · refine lv_tableIn (off := 338) (tgt := 370) hx hb dL_law_32 (by rw [ht]; exact h1) (by rw [ht]; exact h2) (by rw [ht, h3]; rfl) (by decide) ?_
      exact lw_c6 hx hb hml hown hts hX hbl hK hN hI hL hi hl kk
    · refine lv_tableIn (off := 351) (tgt := 383) hx hb dL_law_32 (by rw [ht]; exact h1) (by rw [ht]; exact h2) (by rw [ht, h3]; rfl) (by decide) ?_
      exact lw_c7 hx hb hml hown hts hX hbl hK hN hI hL hi hl kk
    · refine lv_tableIn (off := 364) (tgt := 396) hx hb dL_law_32 (by rw [ht]; exact h1) (by rw [ht]; exact h2) (by rw [ht, h3]; rfl) (by decide) ?_
      exact lw_c8 hx hb hml hown hts hX hbl hK hN hI hL hi hl kk
    · refine lv_tableIn (off := 377) (tgt := 409) hx hb dL_law_32 (by rw [ht]; exact h1) (by rw [ht]; exact h2) (by rw [ht, h3]; rfl) (by decide) ?_
      exact lw_c9 hx hb hml hown hts hX hbl hK hN hI hL hi hl kk
    · refine lv_tableIn (off := 390) (tgt := 422) hx hb dL_law_32 (by rw [ht]; exact h1) (by rw [ht]; exact h2) (by rw [ht, h3]; rfl) (by decide) ?_
      exact lw_c10 hx hb hml hown hts hX hbl hK hN hI hL hi hl kk
    · refine lv_tableIn (off := 415) (tgt := 447) hx hb dL_law_32 (by rw [ht]; exact h1) (by rw [ht]; exact h2) (by rw [ht, h3]; rfl) (by decide) ?_
      exact lw_c11 hx hb hml hown hts hX hbl hK hN hI hL hi hl kk
    · refine lv_tableIn (off := 428) (tgt := 460) hx hb dL_law_32 (by rw [ht]; exact h1) (by rw [ht]; exact h2) (by rw [ht, h3]; rfl) (by decide) ?_
      exact lw_c12 hx hb hml hown hts hX hbl hK hN hI hL hi hl kk
    · refine lv_tableIn (off := 461) (tgt := 493) hx hb dL_law_32 (by rw [ht]; exact h1) (by rw [ht]; exact h2) (by rw [ht, h3]; rfl) (by decide) ?_
      exact lw_c13 hx hb hml hown hts hX hbl hK hN hI hL hi hl kk
    · refine lv_tableIn (off := 504) (tgt := 536) hx hb dL_law_32 (by rw [ht]; exact h1) (by rw [ht]; exact h2) (by rw [ht, h3]; rfl) (by decide) ?_
      exact lw_c14 hx hb hml hown hts hX hbl hK hN hI hL hi hl kk
    · refine lv_tableIn (off := 537) (tgt := 569) hx hb dL_law_32 (by rw [ht]; exact h1) (by rw [ht]; exact h2) (by rw [ht, h3]; rfl) (by decide) ?_
      exact lw_c15 hx hb hml hown hts hX hbl hK hN hI hL hi hl kk
    · refine lv_tableIn (off := 570) (tgt := 602) hx hb dL_law_32 (by rw [ht]; exact h1) (by rw [ht]; exact h2) (by rw [ht, h3]; rfl) (by decide) ?_
      exact lw_c16 hx hb hml hown hts hX hbl hK hN hI hL hi hl kk
    · refine lv_tableIn (off := 603) (tgt := 635) hx hb dL_law_32 (by rw [ht]; exact h1) (by rw [ht]; exact h2) (by rw [ht, h3]; rfl) (by decide) ?_
      exact lw_c17 hx hb hml hown hts hX hbl hK hN hI hL hi hl kk
    · refine lv_tableIn (off := 646) (tgt := 678) hx hb dL_law_32 (by rw [ht]; exact h1) (by rw [ht]; exact h2) (by rw [ht, h3]; rfl) (by decide) ?_
      exact lw_c18 hx hb hml hown hts hX hbl hK hN hI hL hi hl kk
    · refine lv_tableIn (off := 689) (tgt := 721) hx hb dL_law_32 (by rw [ht]; exact h1) (by rw [ht]; exact h2) (by rw [ht, h3]; rfl) (by decide) ?_
      exact lw_c19 hx hb hml hown hts hX hbl hK hN hI hL hi hl kk
    · refine lv_tableIn (off := 722) (tgt := 754) hx hb dL_law_32 (by rw [ht]; exact h1) (by rw [ht]; exact h2) (by rw [ht, h3]; rfl) (by decide) ?_
      exact lw_c20 hx hb hml hown hts hX hbl hK hN hI hL hi hl kk
end LAW
