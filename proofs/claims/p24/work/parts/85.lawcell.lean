-- the script's cell, as the law reads it
def pCell (xs : Nat → Int32) (L : Nat) (i : Int32) : Option Int32 := if i < 0 then none else some (if Int32.ofNat L ≤ i then (7330003 : Int32) * i + (4903 : Int32) else xs i.toNatClampNeg)
theorem cell_in {L : Nat} (hL : L ≤ 260) {i : Int32} (g1 : ¬ i < 0) (g2 : ¬ Int32.ofNat L ≤ i) : vp_in i L := by
  have b1 := i.toInt_lt
  have b2 := i.le_toInt
  obtain ⟨t, ht, e⟩ : ∃ t : Int, (-2147483648 ≤ t ∧ t ≤ 2147483647) ∧ i = I t := ⟨i.toInt, by omega, (Int32.ofInt_toInt _).symm⟩
  subst e
  rw [I_l0, I_lt (by omega)] at g1
  rw [show Int32.ofNat L = I (L : Int) from I_ofNat L, I_le (by omega)] at g2
  refine vp_in_iff.mpr ?_
  rw [I_toInt (by omega)]
  omega
abbrev cPre (D : va_G) (tys : List (ClassId × FieldType)) (lo : Nat) (Wd : Heap → Prop) (b L : Nat) (xs : Nat → Int32) : State → Prop := fun U => aPre D tys lo Wd U ∧ va_X b L xs U U.heap
theorem kpreC {s : State} {H : Heap} {locs : List Loc} {D : va_G} {tys : List (ClassId × FieldType)} {lo : Nat} {Wd : Heap → Prop} {b L : Nat} {xs : Nat → Int32} {av : List Value} (hX : va_X b L xs s s.heap) (hlt : b < lo) (hW : Wd H) (hK : va_K D vwCl tys s) (hN : kN s) (hS : va_S (fun q => lo ≤ q) s.heap H locs) (hz : lo ≤ s.heap.size) : PreS s H (va_Pc av (cPre D tys lo Wd b L xs)) av := by
  refine ⟨fun a U g mk q => ⟨q.1, ⟨q.2.1.1, va_K.moved (u := U) (U := U.calling g mk a) (Vm.Alike.refl U.vm) q.2.1.2.1, kN.same (u := U) (U := U.calling g mk a) rfl q.2.1.2.2.1, q.2.1.2.2.2⟩, va_X.moved (u := U) (U := U.calling g mk a) (Vm.Alike.refl U.vm) q.2.2⟩, fun U hU hWm => ⟨rfl, ⟨by rw [hU]; exact hW, va_K.moved hWm.alike hK, kN.warm hWm hN, by rw [hU]; exact Nat.le_trans hz hS.1⟩, ?_⟩⟩
  rw [hU]
  exact va_X.moved hWm.alike (hX.kept (hS.2.1 b (Nat.lt_of_lt_of_le hlt hz) (Nat.not_le.mpr hlt)))
set_option maxHeartbeats 8000000 in
set_option maxRecDepth 100000 in
theorem kL_cell (l : Launch) (D : va_G) (cI cC cS : ClassId) (lo : Nat) (Wd : Heap → Prop) (b L : Nat) (xs : Nat → Int32) (i : Int32) (hL : L ≤ 260) (hlt : b < lo) {q : Int32} (h : pCell xs L i = some q) : Met l yL_cell wsL_cell ({ frames := 0, cells := 0, slots := 0, locals := 0 } : Room) (va_Pc [.ref b, .int i] (cPre D (kTy cI cC cS) lo Wd b L xs)) (va_Qi (fun (r : Int32) (_ : Unit) => r = q) (fun _ t => Wd t.heap) (fun q => lo ≤ q)) 0 0 (fun q => lo ≤ q) := by
  refine Met.ofW (cc := cL_cell) (maxL := 2) (ret := (some .int)) (by decide) rfl ?_
  intro p e s m args below meth c s₁ B hml hv
  obtain ⟨rfl, ⟨hP, hK, hN, hz⟩, hX⟩ := hv
  have hx := B.exec
  have hb := B.bytes
  have hr := B.returns
  have hts := atoms_spec (ws := wsL_cell) B.pre
  have hown : s.vm.findClass RL = some m.cls := findClass_of_methodNamed B.named
  have hlocks := B.notSynchronized
  have hS : va_S (fun q => lo ≤ q) s.heap s.heap [] := va_S.rf
  have hbl : b < s.heap.size := Nat.lt_of_lt_of_le hlt hz
  have hbA : ¬ (fun q : Nat => lo ≤ q) b := Nat.not_le.mpr hlt
  have hl := lv_entry ([.ref b, .int i]) (n := 2) (Nat.le_of_ble_eq_true rfl)
  rw [lg_entry_eq]
  generalize (lg_sl ([.ref b, .int i]) ++ List.replicate (2 - (lg_sl ([.ref b, .int i])).length) Slot.unset).toArray = ls at hl ⊢
  have hl : lv_has ls 2 [(0, .ref b), (1, .int i)] := hl
  unfold pCell at h
  by_cases g1 : i < 0
  · rw [if_pos g1] at h
    cases h
  rw [if_neg g1] at h
  obtain rfl := Option.some.inj h
  refine lv_iload_n hx hb dL_cell_0 rfl (lv_at hl 1 rfl) ?_
  refine lv_aload_n hx hb dL_cell_1 rfl (lv_at hl 0 rfl) ?_
  refine va_slen hx hb hX hbl hbA hS dL_cell_2 ?_
  refine lv_icmp_ge (tgt := 12) hx hb dL_cell_3 (by decide) (fun g => ?_) (fun g => ?_)
  · rw [if_pos g]
    refine lv_ldc (v := (7330003 : Int32)) hx hb hown (hts (.constant RL 7 (7330003)) (by decide +kernel)) dL_cell_12 ?_
    refine lv_iload_n hx hb dL_cell_14 rfl (lv_at hl 1 rfl) ?_
    refine lv_imul hx hb dL_cell_15 ?_
    refine lv_sipush (v := (4903 : Int32)) hx hb dL_cell_16 (by decide) ?_
    refine lv_iadd hx hb dL_cell_19 ?_
    exact W.iret (v := (7330003 : Int32) * i + (4903 : Int32)) hx hb hr (fun t ht hW => ⟨⟨_, (), rfl, rfl, by dsimp only; rw [ht]; exact hP⟩, hS.F ht⟩) hS.2.2 dL_cell_20
  · rw [if_neg g]
    refine lv_aload_n hx hb dL_cell_6 rfl (lv_at hl 0 rfl) ?_
    refine lv_iload_n hx hb dL_cell_7 rfl (lv_at hl 1 rfl) ?_
    refine va_sld hx hb hX hbl hbA hS (cell_in hL g1 g) dL_cell_8 ?_
    refine lv_goto (tgt := 20) hx hb dL_cell_9 (by decide) ?_
    exact W.iret (v := xs i.toNatClampNeg) hx hb hr (fun t ht hW => ⟨⟨_, (), rfl, rfl, by dsimp only; rw [ht]; exact hP⟩, hS.F ht⟩) hS.2.2 dL_cell_20
