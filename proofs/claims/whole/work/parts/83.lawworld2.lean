-- worlds in another order
theorem dI {A : Nat → Prop} {ws : va_W} : va_D A ws ↔ (ws.map Prod.fst).Nodup ∧ ∀ q ∈ ws, A q.1 := by
  constructor
  · intro h
    refine ⟨List.pairwise_iff_getElem.mpr (fun i j hi hj hij he => ?_), fun q hq => ?_⟩
    · have hi2 : i < ws.length := by simpa using hi
      have hj2 : j < ws.length := by simpa using hj
      have e1 : ws[i]? = some ws[i] := List.getElem?_eq_getElem hi2
      have e2 : ws[j]? = some ws[j] := List.getElem?_eq_getElem hj2
      have e3 : (ws[i]).1 = (ws[j]).1 := by simpa using he
      have := h.1 i j _ _ e1 e2 e3
      omega
    · obtain ⟨i, hi⟩ := List.getElem?_of_mem hq
      exact h.2 i q hi
  · intro h
    refine ⟨fun i j p q hi hj he => ?_, fun k q hk => h.2 q (List.mem_of_getElem? hk)⟩
    have hi2 : i < (ws.map Prod.fst).length := by
      have := (List.getElem?_eq_some_iff.mp hi).1
      simpa using this
    refine (List.getElem?_inj hi2 h.1).mp ?_
    rw [List.getElem?_map, List.getElem?_map, hi, hj]
    show some p.1 = some q.1
    rw [he]
theorem kPermP {D : va_G} {cl : List vw_C} {ws ws' : va_W} {H : Heap} (h : ws.Perm ws') (hP : va_P D cl ws H) : va_P D cl ws' H := kSubP hP (fun _ hq => h.mem_iff.mpr hq)
theorem kPermD {A : Nat → Prop} {ws ws' : va_W} (h : ws.Perm ws') (hD : va_D A ws) : va_D A ws' := dI.mpr ⟨(h.map Prod.fst).nodup_iff.mp (dI.mp hD).1, fun q hq => (dI.mp hD).2 q (h.mem_iff.mpr hq)⟩
theorem kRightD {A : Nat → Prop} {wr wc : va_W} (hD : va_D A (wr ++ wc)) : va_D A wc := by
  have h := dI.mp hD
  rw [List.map_append] at h
  exact dI.mpr ⟨(List.nodup_append.mp h.1).2.1, fun q hq => h.2 q (List.mem_append_right _ hq)⟩
theorem kRangeR {α : Type} (xs ys : List α) : (List.range' xs.length ys.length).map (fun i => (xs ++ ys)[i]?) = ys.map some := by
  refine List.ext_getElem? fun j => ?_
  rw [List.getElem?_map, List.getElem?_map]
  by_cases h : j < ys.length
  · rw [List.getElem?_range' h, List.getElem?_eq_getElem h]
    show some ((xs ++ ys)[xs.length + 1 * j]?) = some (some ys[j])
    rw [List.getElem?_append_right (by omega), show xs.length + 1 * j - xs.length = j by omega, List.getElem?_eq_getElem h]
  · rw [List.getElem?_eq_none (by rw [List.length_range']; omega), List.getElem?_eq_none (by omega)]
    rfl
section KQ
variable {p : Program} {l : Launch} {e : Env} {R : Room} {s : State} {m : MethodId} {args : Array Value} {below : List Frame} {meth : Method} {c : Code} {H : Heap} {locs : List Loc} {cells slots : Nat} {Q : State → Prop} {pc : Nat} {ls : Array Slot} {rest st0 : List Value} {a : Array Value} {A : Nat → Prop} {D : va_G} {ws wc wc' ws' wr : va_W} {tys : List (ClassId × FieldType)} {av : List Value}
theorem kpreQ (hp : ws.Perm (wr ++ wc)) (hK : va_K D vwCl tys s) (hN : kN s) (hP : va_P D vwCl ws H) (hD : va_D A ws) : PreS s H (va_Pc av (kPre D tys wc H.size)) av :=
  ⟨kPre.blind, fun U hU hW => ⟨rfl, by rw [hU], by rw [hU]; exact kSubP hP (fun _ hq => hp.mem_iff.mpr (List.mem_append_right _ hq)), va_K.moved hW.alike hK, (kRightD (kPermD hp hD)).weaken (fun _ _ _ _ => trivial), kN.warm hW hN⟩⟩
theorem kpreVQ {b : Nat} {As : List Value} {C : String} (hp : ws.Perm (wr ++ wc)) (hK : va_K D vwCl tys s) (hN : kN s) (hP : va_P D vwCl ws H) (hD : va_D A ws) (ci : Nat) {fs : List Value} {T : u_T} {n : Nat} (he : wc[0]? = some (b, .inr (ci, fs))) (hc : vwCl[ci]? = some (C, T, n)) : PreV s H C b (va_Pc (.ref b :: As) (kPre D tys wc H.size)) As :=
  ⟨kPre.blind, va_recv (q := (C, T, n)) hK (kSubP hP (fun _ hq => hp.mem_iff.mpr (List.mem_append_right _ hq))) hc he, (kpreQ hp hK hN hP hD).2⟩
theorem kcirQ {res : Int32} (hp : ws.Perm (wr ++ wc)) (hr : va_Run p l e R s m args below meth c H locs cells slots 0 0 (F0 m pc ls st0) rest (va_Qi (fun (r : Int32) (_ : Unit) => r = res) (fun _ => kPost D wc (va_A wc H.size)) (va_A wc H.size) a) (va_A wc H.size)) (hP : va_P D vwCl ws H) (hD : va_D A ws) (hS : va_S A s.heap H locs) (hA : ∀ q, s.heap.size ≤ q → A q)
    (kk : ∀ (H1 : Heap) (locs1 : List Loc), va_P D vwCl ws H1 → va_S A s.heap H1 locs1 → W p l e R s m args below meth c H1 locs1 cells slots Q (F0 m (pc + 3) ls (.int res :: rest))) : W p l e R s m args below meth c H locs cells slots Q (F0 m pc ls st0) := by
  have hm : ∀ q ∈ wc, q ∈ ws := fun _ hq => hp.mem_iff.mpr (List.mem_append_right _ hq)
  have hF := kFree hD hS hA hm
  refine va_calli hr hS (fun q _ h => hF q h) hF (fun r u t H1 locs1 ht hvm hw hB hz hk hS1 => ?_)
  subst hw
  obtain ⟨hB1, -⟩ := hB
  rw [ht] at hB1
  exact kk H1 locs1 (kRo hP hD hm hk hB1) hS1
theorem kciwQ {res : Int32} (hp : ws.Perm (wr ++ wc)) (hp' : (wr ++ wc').Perm ws') (hr : va_Run p l e R s m args below meth c H locs cells slots 0 0 (F0 m pc ls st0) rest (va_Qi (fun (r : Int32) (_ : Unit) => r = res) (fun _ => kPost D wc' (va_A wc H.size)) (va_A wc H.size) a) (va_A wc H.size)) (hP : va_P D vwCl ws H) (hD : va_D A ws) (hS : va_S A s.heap H locs) (hA : ∀ q, s.heap.size ≤ q → A q)
    (kk : ∀ (H1 : Heap) (locs1 : List Loc), va_P D vwCl ws' H1 → va_D A ws' → va_S A s.heap H1 locs1 → W p l e R s m args below meth c H1 locs1 cells slots Q (F0 m (pc + 3) ls (.int res :: rest))) : W p l e R s m args below meth c H locs cells slots Q (F0 m pc ls st0) := by
  have hP2 := kPermP hp hP
  have hD2 := kPermD hp hD
  have hF := kFree hD2 hS hA (fun _ hq => List.mem_append_right wr hq)
  refine va_calli hr hS (fun q _ h => hF q h) hF (fun r u t H1 locs1 ht hvm hw2 hB hz hk hS1 => ?_)
  subst hw2
  obtain ⟨hB1, hB2⟩ := hB
  rw [ht] at hB1
  obtain ⟨h1, h2⟩ := va_join (wr := wr) (w1 := wc') hP2 hD2 (List.range' wr.length wc.length) (List.range wr.length) (kRangeR wr wc) (kRange wr wc) (by rw [List.range_eq_range']; exact kNdR _ _) (fun i hi hj => by have := List.mem_range.mp hi; have := (List.mem_range'_1.mp hj).1; omega) hk hF hB1 hB2
  exact kk H1 locs1 (kPermP hp' h1) (kPermD hp' h2) hS1
end KQ
theorem lw_pm0 {α : Type} (b0 b1 b2 b3 b4 b5 b6 b7 b8 b9 b10 b11 b12 : List α) : (b0 ++ (b1 ++ (b2 ++ (b3 ++ (b4 ++ (b5 ++ (b6 ++ (b7 ++ (b8 ++ (b9 ++ (b10 ++ (b11 ++ b12)))))))))))).Perm ((b6 ++ (b7 ++ (b8 ++ (b9 ++ (b10 ++ (b11 ++ b12)))))) ++ (b0 ++ (b1 ++ (b2 ++ (b3 ++ (b4 ++ b5)))))) := by
  haveI : DecidableEq α := fun a b => Classical.propDecidable (a = b)
  exact List.perm_iff_count.mpr (fun x => by simp only [List.count_append]; omega)
theorem lw_pm1 {α : Type} (b0 b1 b2 b3 b4 b5 b6 b7 b8 b9 b10 b11 b12 : List α) : (b0 ++ (b1 ++ (b2 ++ (b3 ++ (b4 ++ (b5 ++ (b6 ++ (b7 ++ (b8 ++ (b9 ++ (b10 ++ (b11 ++ b12)))))))))))).Perm ((b0 ++ (b1 ++ (b2 ++ (b3 ++ (b4 ++ (b5 ++ (b6 ++ (b7 ++ (b8 ++ (b9 ++ (b10 ++ b11))))))))))) ++ (b12)) := by
  haveI : DecidableEq α := fun a b => Classical.propDecidable (a = b)
  exact List.perm_iff_count.mpr (fun x => by simp only [List.count_append]; omega)
theorem lw_pm2 {α : Type} (b0 b1 b2 b3 b4 b5 b6 b7 b8 b9 b10 b11 b12 : List α) : (b0 ++ (b1 ++ (b2 ++ (b3 ++ (b4 ++ (b5 ++ (b6 ++ (b7 ++ (b8 ++ (b9 ++ (b10 ++ (b11 ++ b12)))))))))))).Perm ((b7 ++ (b10 ++ (b11 ++ b12))) ++ (b0 ++ (b1 ++ (b2 ++ (b3 ++ (b4 ++ (b5 ++ (b6 ++ (b8 ++ b9))))))))) := by
  haveI : DecidableEq α := fun a b => Classical.propDecidable (a = b)
  exact List.perm_iff_count.mpr (fun x => by simp only [List.count_append]; omega)
theorem lw_pm3 {α : Type} (b0 b1 b2 b3 b4 b5 b6 b7 b8 b9 b10 b11 b12 : List α) : (b0 ++ (b1 ++ (b2 ++ (b3 ++ (b4 ++ (b5 ++ (b6 ++ (b7 ++ (b8 ++ (b9 ++ (b10 ++ (b11 ++ b12)))))))))))).Perm ((b1 ++ (b2 ++ (b3 ++ (b4 ++ (b5 ++ (b7 ++ (b8 ++ (b9 ++ (b10 ++ (b11 ++ b12)))))))))) ++ (b0 ++ b6)) := by
  haveI : DecidableEq α := fun a b => Classical.propDecidable (a = b)
  exact List.perm_iff_count.mpr (fun x => by simp only [List.count_append]; omega)
theorem lw_pm4 {α : Type} (b0 b1 b2 b3 b4 b5 b6 b7 b8 b9 b10 b11 b12 : List α) : (b0 ++ (b1 ++ (b2 ++ (b3 ++ (b4 ++ (b5 ++ (b6 ++ (b7 ++ (b8 ++ (b9 ++ (b10 ++ (b11 ++ b12)))))))))))).Perm ((b5 ++ (b8 ++ (b9 ++ (b11 ++ b12)))) ++ (b0 ++ (b1 ++ (b2 ++ (b3 ++ (b4 ++ (b6 ++ (b7 ++ b10)))))))) := by
  haveI : DecidableEq α := fun a b => Classical.propDecidable (a = b)
  exact List.perm_iff_count.mpr (fun x => by simp only [List.count_append]; omega)
theorem lw_pm5 {α : Type} (b0 b1 b2 b3 b4 b5 b6 b7 b8 b9 b10 b11 b12 : List α) : (b0 ++ (b1 ++ (b2 ++ (b3 ++ (b4 ++ (b5 ++ (b6 ++ (b7 ++ (b8 ++ (b9 ++ (b10 ++ (b11 ++ b12)))))))))))).Perm ((b5 ++ (b6 ++ (b7 ++ (b8 ++ (b9 ++ (b10 ++ (b11 ++ b12))))))) ++ (b0 ++ (b1 ++ (b2 ++ (b3 ++ b4))))) := by
  haveI : DecidableEq α := fun a b => Classical.propDecidable (a = b)
  exact List.perm_iff_count.mpr (fun x => by simp only [List.count_append]; omega)
theorem lw_pm6 {α : Type} (b0 b1 b2 b3 b4 b5 b6 b7 b8 b9 b10 b11 b12 : List α) : (b0 ++ (b1 ++ (b2 ++ (b3 ++ (b4 ++ (b5 ++ (b6 ++ (b7 ++ (b8 ++ (b9 ++ (b10 ++ (b11 ++ b12)))))))))))).Perm ((b1 ++ (b2 ++ (b3 ++ (b4 ++ (b5 ++ (b6 ++ (b7 ++ (b8 ++ (b9 ++ (b10 ++ b12)))))))))) ++ (b0 ++ b11)) := by
  haveI : DecidableEq α := fun a b => Classical.propDecidable (a = b)
  exact List.perm_iff_count.mpr (fun x => by simp only [List.count_append]; omega)
theorem lw_pm7 {α : Type} (b0 b1 b2 b3 b4 b5 b6 b7 b8 b9 b10 b11 b12 : List α) : (b0 ++ (b1 ++ (b2 ++ (b3 ++ (b4 ++ (b5 ++ (b6 ++ (b7 ++ (b8 ++ (b9 ++ (b10 ++ (b11 ++ b12)))))))))))).Perm ((b5 ++ (b6 ++ (b7 ++ (b8 ++ (b9 ++ (b10 ++ b12)))))) ++ (b0 ++ (b1 ++ (b2 ++ (b3 ++ (b4 ++ b11)))))) := by
  haveI : DecidableEq α := fun a b => Classical.propDecidable (a = b)
  exact List.perm_iff_count.mpr (fun x => by simp only [List.count_append]; omega)
theorem lw_pm8 {α : Type} (b0 b1 b2 b3 b4 b5 b6 b7 b8 b9 b10 b11 b12 : List α) : (b0 ++ (b1 ++ (b2 ++ (b3 ++ (b4 ++ (b5 ++ (b6 ++ (b7 ++ (b8 ++ (b9 ++ (b10 ++ (b11 ++ b12)))))))))))).Perm ((b4 ++ (b5 ++ (b6 ++ (b7 ++ (b8 ++ (b9 ++ (b10 ++ (b11 ++ b12)))))))) ++ (b0 ++ (b1 ++ (b2 ++ b3)))) := by
  haveI : DecidableEq α := fun a b => Classical.propDecidable (a = b)
  exact List.perm_iff_count.mpr (fun x => by simp only [List.count_append]; omega)
theorem lw_pm9 {α : Type} (b0 b1 b2 b3 b4 b5 b6 b7 b8 b9 b10 b11 b12 : List α) : (b0 ++ (b1 ++ (b2 ++ (b3 ++ (b4 ++ (b5 ++ (b6 ++ (b7 ++ (b8 ++ (b9 ++ (b10 ++ (b11 ++ b12)))))))))))).Perm ((b4 ++ (b5 ++ (b6 ++ (b7 ++ (b8 ++ (b9 ++ (b10 ++ b12))))))) ++ (b0 ++ (b1 ++ (b2 ++ (b3 ++ b11))))) := by
  haveI : DecidableEq α := fun a b => Classical.propDecidable (a = b)
  exact List.perm_iff_count.mpr (fun x => by simp only [List.count_append]; omega)
theorem lw_pm10 {α : Type} (b0 b1 b2 b3 b4 b5 b6 b7 b8 b9 b10 b11 b12 : List α) : (b0 ++ (b1 ++ (b2 ++ (b3 ++ (b4 ++ (b5 ++ (b6 ++ (b7 ++ (b8 ++ (b9 ++ (b10 ++ (b11 ++ b12)))))))))))).Perm ((b6 ++ (b7 ++ (b8 ++ (b9 ++ (b10 ++ b12))))) ++ (b0 ++ (b1 ++ (b2 ++ (b3 ++ (b4 ++ (b5 ++ b11))))))) := by
  haveI : DecidableEq α := fun a b => Classical.propDecidable (a = b)
  exact List.perm_iff_count.mpr (fun x => by simp only [List.count_append]; omega)
