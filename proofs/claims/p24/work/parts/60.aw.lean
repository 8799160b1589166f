-- the world told without its cells (printed by wip/p24/fun/mk60.py)
theorem dI {A : Nat → Prop} {ws : va_W} : va_D A ws ↔ (ws.map Prod.fst).Nodup ∧ ∀ q ∈ ws, A q.1 := by
  constructor
  · intro h
    refine ⟨List.pairwise_iff_getElem.mpr (fun i j hi hj hij he => ?_), fun q hq => ?_⟩
    · have hi2 : i < ws.length := by simpa using hi
      have hj2 : j < ws.length := by simpa using hj
      have e1 : ws[i]? = some ws[i] := List.getElem?_eq_getElem hi2
      have e2 : ws[j]? = some ws[j] := List.getElem?_eq_getElem hj2
      have e3 : (ws[i]).1 = (ws[j]).1 := by simpa using he
      have := h.1 i j _ _ e1 e2 e3
      omega
    · obtain ⟨i, hi⟩ := List.getElem?_of_mem hq
      exact h.2 i q hi
  · intro h
    refine ⟨fun i j p q hi hj he => ?_, fun k q hk => h.2 q (List.mem_of_getElem? hk)⟩
    have hi2 : i < (ws.map Prod.fst).length := by
      have := (List.getElem?_eq_some_iff.mp hi).1
      simpa using this
    refine (List.getElem?_inj hi2 h.1).mp ?_
    rw [List.getElem?_map, List.getElem?_map, hi, hj]
    show some p.1 = some q.1
    rw [he]
theorem kPermP {D : va_G} {cl : List vw_C} {ws ws' : va_W} {H : Heap} (h : ws.Perm ws') (hP : va_P D cl ws H) : va_P D cl ws' H := kSubP hP (fun _ hq => h.mem_iff.mpr hq)
theorem kPermD {A : Nat → Prop} {ws ws' : va_W} (h : ws.Perm ws') (hD : va_D A ws) : va_D A ws' := dI.mpr ⟨(h.map Prod.fst).nodup_iff.mp (dI.mp hD).1, fun q hq => (dI.mp hD).2 q (h.mem_iff.mpr hq)⟩
theorem kRightD {A : Nat → Prop} {wr wc : va_W} (hD : va_D A (wr ++ wc)) : va_D A wc := by
  have h := dI.mp hD
  rw [List.map_append] at h
  exact dI.mpr ⟨(List.nodup_append.mp h.1).2.1, fun q hq => h.2 q (List.mem_append_right _ hq)⟩
theorem kRangeR {α : Type} (xs ys : List α) : (List.range' xs.length ys.length).map (fun i => (xs ++ ys)[i]?) = ys.map some := by
  refine List.ext_getElem? fun j => ?_
  rw [List.getElem?_map, List.getElem?_map]
  by_cases h : j < ys.length
  · rw [List.getElem?_range' h, List.getElem?_eq_getElem h]
    show some ((xs ++ ys)[xs.length + 1 * j]?) = some (some ys[j])
    rw [List.getElem?_append_right (by omega), show xs.length + 1 * j - xs.length = j by omega, List.getElem?_eq_getElem h]
  · rw [List.getElem?_eq_none (by rw [List.length_range']; omega), List.getElem?_eq_none (by omega)]
    rfl
abbrev aAd : Type := aST × aHI × (Nat × Nat) × Nat × (Nat × (Nat × Nat × Nat)) × Nat × (Nat × Nat × Nat × Nat × Nat)
abbrev Zg : Type := (Int32 × Int32 × Int32 × Int32) × (Int32 × Int32) × (Int32 × Int32) × Int32 × (Int32 × Int32 × Int32 × Int32 × Int32 × Int32 × Int32) × ((Nat → Int32) × (Nat → Int32) × (Nat → Int32) × (Nat → Int32) × Int32 × Int32 × Int32)
def wCl (cI cC cS : ClassId) (aV : Nat) (u : aAd) (x : Sg) (z : Zg) (X : va_W) : va_W := wVC aV u.1.1 u.2.1.1 u.2.2.1.1 u.2.2.2.1 u.2.2.2.2.1.1 u.2.2.2.2.2.1 u.2.2.2.2.2.2.1 ++ (wSC u.1.1 u.1.2.1.1 u.1.2.2.1.1 u.1.2.2.2.1 ++ (wBK cI u.1.2.1 x.1.1.1 x.1.1.2.1 x.1.1.2.2.1 x.1.1.2.2.2 ++ (wBK cI u.1.2.2.1 x.1.2.1.1 x.1.2.1.2.1 x.1.2.1.2.2.1 x.1.2.1.2.2.2 ++ (wMP cI u.1.2.2.2 x.1.2.2.1 x.1.2.2.2.1 x.1.2.2.2.2 ++ (wHI cI cS u.2.1 x.2.1.1 0 x.2.1.2.1 x.2.1.2.2.1 x.2.1.2.2.2.1 x.2.1.2.2.2.2.1 x.2.1.2.2.2.2.2 ++ (wTX cC u.2.2.1 x.2.2.1.1 x.2.2.1.2 z.1.1 z.1.2.1 z.1.2.2.1 z.1.2.2.2 ++ (wRR u.2.2.2.1 z.2.1.1 z.2.1.2 ++ (wMR u.2.2.2.2.1.1 u.2.2.2.2.1.2.1 z.2.2.1.1 z.2.2.1.2 ++ (wMP cI u.2.2.2.2.1.2 x.2.2.2.1.1 x.2.2.2.1.2 z.2.2.2.1 ++ (wRE u.2.2.2.2.2.1 z.2.2.2.2.1.1 z.2.2.2.2.1.2.1 z.2.2.2.2.1.2.2.1 z.2.2.2.2.1.2.2.2.1 z.2.2.2.2.1.2.2.2.2.1 z.2.2.2.2.1.2.2.2.2.2.1 z.2.2.2.2.1.2.2.2.2.2.2 ++ (wLY cI u.2.2.2.2.2.2 x.2.2.2.2.1 x.2.2.2.2.2.1 x.2.2.2.2.2.2.1 x.2.2.2.2.2.2.2 z.2.2.2.2.2.1 z.2.2.2.2.2.2.1 z.2.2.2.2.2.2.2.1 z.2.2.2.2.2.2.2.2.1 z.2.2.2.2.2.2.2.2.2.1 z.2.2.2.2.2.2.2.2.2.2.1 z.2.2.2.2.2.2.2.2.2.2.2 ++ X)))))))))))
def aW (D : va_G) (cI cC cS : ClassId) (lo aV : Nat) (x : Sg) (X : va_W) (H : Heap) : Prop := ∃ (u : aAd) (z : Zg), va_P D vwCl (wCl cI cC cS aV u x z X) H ∧ va_D (fun q => lo ≤ q) (wCl cI cC cS aV u x z X)
def aPre (D : va_G) (tys : List (ClassId × FieldType)) (lo : Nat) (Wd : Heap → Prop) (U : State) : Prop := Wd U.heap ∧ va_K D vwCl tys U ∧ kN U ∧ lo ≤ U.heap.size
theorem aPre.blind {av : List Value} {D : va_G} {tys : List (ClassId × FieldType)} {lo : Nat} {Wd : Heap → Prop} : FrameBlind (va_Pc av (aPre D tys lo Wd)) := fun a U g mk q => ⟨q.1, q.2.1, va_K.moved (u := U) (U := U.calling g mk a) (Vm.Alike.refl U.vm) q.2.2.1, kN.same (u := U) (U := U.calling g mk a) rfl q.2.2.2.1, q.2.2.2.2⟩
abbrev kAc (l : Launch) (y : MethodName) (wsy : List Cond) (rm : Room) (D : va_G) (tys : List (ClassId × FieldType)) (lo : Nat) (av : List Value) (Wd Wd' : Heap → Prop) (res : Int32) (mc ms : Nat) : Prop := Met l y wsy rm (va_Pc av (aPre D tys lo Wd)) (va_Qi (fun (r : Int32) (_ : Unit) => r = res) (fun _ t => Wd' t.heap) (fun q => lo ≤ q)) mc ms (fun q => lo ≤ q)
abbrev kAi (l : Launch) (y : MethodName) (wsy : List Cond) (rm : Room) (D : va_G) (tys : List (ClassId × FieldType)) (lo : Nat) (av : List Value) (Wd Wd' : Heap → Prop) (res : Int32) : Prop := kAc l y wsy rm D tys lo av Wd Wd' res 0 0
theorem Met.pt {l : Launch} {y : MethodName} {ws : List Cond} {rm : Room} {Pc : Array Value → State → Prop} {Qc : Array Value → State → Outcome → State → Prop} {mc ms : Nat} {free : Addr → Prop} (h : ∀ a s, Pc a s → ∃ (Pc' : Array Value → State → Prop) (Qc' : Array Value → State → Outcome → State → Prop) (free' : Addr → Prop), Met l y ws rm Pc' Qc' mc ms free' ∧ Pc' a s ∧ (∀ o t, Qc' a s o t → Qc a s o t) ∧ ∀ q, free' q → free q) : Met l y ws rm Pc Qc mc ms free := by
  intro p e ha hc hk s m args below hf happ hP hK
  obtain ⟨Pc', Qc', free', hM, hp, hq, hfr⟩ := h args s hP
  obtain ⟨n, o, h1, h2, h3, h4, L, h5, h6⟩ := hM p e ha hc hk s m args below hf happ hp trivial
  exact ⟨n, o, h1, h2, h3, hq _ _ h4, L, h5, fun q hq' => hfr _ (h6 q hq')⟩
theorem aIof {l : Launch} {y : MethodName} {wsy : List Cond} {rm : Room} {D : va_G} {tys : List (ClassId × FieldType)} {lo : Nat} {av : List Value} {Wd Wd' : Heap → Prop} {res : Int32} (h : ∀ H, Wd H → ∃ ws wr wc wc' : va_W, va_P D vwCl ws H ∧ va_D (fun q => lo ≤ q) ws ∧ ws.Perm (wr ++ wc) ∧ (∀ sz, kMi l y wsy rm D tys av wc sz res wc') ∧ ∀ H1, va_P D vwCl (wr ++ wc') H1 → va_D (fun q => lo ≤ q) (wr ++ wc') → Wd' H1) : kAi l y wsy rm D tys lo av Wd Wd' res := by
  refine Met.pt (fun a s hq => ?_)
  obtain ⟨ha, hW, hK, hN, hz⟩ := hq
  obtain ⟨ws, wr, wc, wc', hP, hD, hp, hM, hE⟩ := h s.heap hW
  have hP2 := kPermP hp hP
  have hD2 := kPermD hp hD
  have hF : ∀ q, va_A wc s.heap.size q → lo ≤ q := by
    intro q hq
    rcases hq with ⟨k, e, h⟩ | h
    · exact hD.2 _ _ (List.getElem?_of_mem (hp.mem_iff.mpr (List.mem_append_right _ (List.mem_of_getElem? h)))).choose_spec
    · exact Nat.le_trans hz h
  refine ⟨_, _, _, hM s.heap.size, ⟨ha, rfl, kSubP hP2 (fun _ hq => List.mem_append_right _ hq), hK, (kRightD hD2).weaken (fun _ _ _ _ => trivial), hN⟩, fun o t hQ => ?_, hF⟩
  obtain ⟨⟨r, u, ho, hr, hP1, hD1⟩, hz1, hk⟩ := hQ
  obtain ⟨h1, h2⟩ := va_join (wr := wr) (w1 := wc') hP2 hD2 (List.range' wr.length wc.length) (List.range wr.length) (kRangeR wr wc) (kRange wr wc) (by rw [List.range_eq_range']; exact kNdR _ _) (fun i hi hj => by have := List.mem_range.mp hi; have := (List.mem_range'_1.mp hj).1; omega) hk hF hP1 hD1
  exact ⟨⟨r, u, ho, hr, hE _ h1 h2⟩, hz1, fun q a b => hk q a (fun z => b (hF q z))⟩
section KA
variable {p : Program} {l : Launch} {e : Env} {R : Room} {s : State} {m : MethodId} {args : Array Value} {below : List Frame} {meth : Method} {c : Code} {H : Heap} {locs : List Loc} {cells slots mc ms : Nat} {Q : State → Prop} {pc : Nat} {ls : Array Slot} {rest st0 : List Value} {a : Array Value} {D : va_G} {lo : Nat} {tys : List (ClassId × FieldType)} {av : List Value} {Wd Wd' : Heap → Prop} {cI cC cS : ClassId} {aV : Nat} {x : Sg} {X : va_W}
theorem kpreA (hW : Wd H) (hK : va_K D vwCl tys s) (hN : kN s) (hz : lo ≤ H.size) : PreS s H (va_Pc av (aPre D tys lo Wd)) av :=
  ⟨aPre.blind, fun U hU hWm => ⟨rfl, by rw [hU]; exact hW, va_K.moved hWm.alike hK, kN.warm hWm hN, by rw [hU]; exact hz⟩⟩
theorem aW.recv {tys : List (ClassId × FieldType)} (hW : aW D cI cC cS lo aV x X H) (hK : va_K D vwCl tys s) : ∃ cell : Cell, H[aV]? = some cell ∧ cell.vm.isStatics = false ∧ s.vm.findClass RX9 = some cell.cls := by
  obtain ⟨u, z, hP, hD⟩ := hW
  exact va_recv (q0 := 0) (ci := 9) (q := (RX9, TX9, 7)) hK hP rfl rfl
theorem kpreVA {As : List Value} (hW : aW D cI cC cS lo aV x X H) (hK : va_K D vwCl tys s) (hN : kN s) (hz : lo ≤ H.size) : PreV s H RX9 aV (va_Pc (.ref aV :: As) (aPre D tys lo (aW D cI cC cS lo aV x X))) As :=
  ⟨aPre.blind, hW.recv hK, (kpreA hW hK hN hz).2⟩
theorem kciA {res : Int32} (hr : va_Run p l e R s m args below meth c H locs cells slots mc ms (F0 m pc ls st0) rest (va_Qi (fun (r : Int32) (_ : Unit) => r = res) (fun _ t => Wd' t.heap) (fun q => lo ≤ q) a) (fun q => lo ≤ q)) (hS : va_S (fun q => lo ≤ q) s.heap H locs)
    (kk : ∀ (H1 : Heap) (locs1 : List Loc), Wd' H1 → va_S (fun q => lo ≤ q) s.heap H1 locs1 → W p l e R s m args below meth c H1 locs1 (cells + mc) (slots + ms) Q (F0 m (pc + 3) ls (.int res :: rest))) : W p l e R s m args below meth c H locs cells slots Q (F0 m pc ls st0) := by
  refine va_calli hr hS (fun q _ h => h) (fun q h => h) (fun r u t H1 locs1 ht hvm hw hB hz hk hS1 => ?_)
  subst hw
  rw [ht] at hB
  exact kk H1 locs1 hB hS1
theorem wCl_app {u : aAd} {z : Zg} {Y : va_W} : wCl cI cC cS aV u x z (X ++ Y) = wCl cI cC cS aV u x z X ++ Y := by
  unfold wCl
  simp only [List.append_assoc]
theorem aW.xp (hW : aW D cI cC cS lo aV x X H) : va_P D vwCl X H := by
  obtain ⟨u, z, hP, hD⟩ := hW
  refine kSubP hP (fun q hq => ?_)
  have e : wCl cI cC cS aV u x z X = wCl cI cC cS aV u x z [] ++ X := by rw [← wCl_app, List.nil_append]
  rw [e]
  exact List.mem_append_right _ hq
theorem aW.xr {Y : va_W} (hW : aW D cI cC cS lo aV x (X ++ Y) H) : va_P D vwCl Y H := kSubP hW.xp (fun _ hq => List.mem_append_right _ hq)
theorem aW.sub {Y : va_W} (hW : aW D cI cC cS lo aV x (X ++ Y) H) : aW D cI cC cS lo aV x X H := by
  obtain ⟨u, z, hP, hD⟩ := hW
  rw [wCl_app] at hP hD
  have hs := List.sublist_append_left (wCl cI cC cS aV u x z X) Y
  exact ⟨u, z, kSubP hP (fun q hq => hs.subset hq), dI.mpr ⟨((hs.map Prod.fst).nodup (dI.mp hD).1), fun q hq => (dI.mp hD).2 q (hs.subset hq)⟩⟩
theorem aW_kst {cc : ByteArray} (hexec : p.tables.exec = Jvm.exec) (hb : c.code = cc) (hK : va_K D vwCl (kTy cI cC cS) s) {k n : Nat} {f : Nat → Int32} (hW : aW D cI cC cS lo aV x (X ++ wAR cI k n f) H) (hS : va_S (fun q => lo ≤ q) s.heap H locs) {i v : Int32} (hin : vp_in i n) (hdg : decode cc pc = .ok (.iastore, 1))
    (kk : ∀ (H1 : Heap) (locs1 : List Loc), aW D cI cC cS lo aV x (X ++ wAR cI k n (upd f i.toNatClampNeg v)) H1 → va_S (fun q => lo ≤ q) s.heap H1 locs1 → W p l e R s m args below meth c H1 locs1 cells slots Q (F0 m (pc + 1) ls rest)) : W p l e R s m args below meth c H locs cells slots Q (F0 m pc ls (.int v :: .int i :: .ref k :: rest)) := by
  obtain ⟨u, z, hP, hD⟩ := hW
  rw [wCl_app] at hP hD
  have e1 : (wCl cI cC cS aV u x z X ++ wAR cI k n f)[(wCl cI cC cS aV u x z X).length]? = some (k, .inl (cI, n, .inl f)) := by
    rw [List.getElem?_append_right (Nat.le_refl _), Nat.sub_self]
    rfl
  have e2 : (wCl cI cC cS aV u x z X ++ wAR cI k n f).set (wCl cI cC cS aV u x z X).length (k, .inl (cI, n, .inl (upd f i.toNatClampNeg v))) = wCl cI cC cS aV u x z X ++ wAR cI k n (upd f i.toNatClampNeg v) := by
    rw [List.set_append_right _ _ (Nat.le_refl _), Nat.sub_self]
    rfl
  refine va_iast hexec hb hK hP hD hS (wCl cI cC cS aV u x z X).length 0 e1 rfl hin hdg (fun H1 locs1 hP1 hD1 hS1 => ?_)
  rw [e2] at hP1 hD1
  exact kk H1 locs1 ⟨u, z, by rw [wCl_app]; exact hP1, by rw [wCl_app]; exact hD1⟩ hS1
theorem aW_new {cc : ByteArray} (hexec : p.tables.exec = Jvm.exec) (hb : c.code = cc) (harr : (Cond.arrayClass .int).before args s = true) (hK : va_K D vwCl (kTy cI cC cS) s) (hW : aW D cI cC cS lo aV x X H) (hS : va_S (fun q => lo ≤ q) s.heap H locs) (hz : lo ≤ s.heap.size) {n : Nat} {v : Int32} (hn : ¬ v < 0) (hN : v.toNatClampNeg = n) (hbytes : n * 4 ≤ 536870912) (hcells : cells + 1 ≤ R.cells) (hslots : slots + n ≤ R.slots) (hdg : decode cc pc = .ok (.newarray .int, 2))
    (kk : ∀ (k : Nat) (H1 : Heap), aW D cI cC cS lo aV x (X ++ wAR cI k n z0) H1 → va_S (fun q => lo ≤ q) s.heap H1 locs → W p l e R s m args below meth c H1 locs (cells + 1) (slots + n) Q (F0 m (pc + 2) ls (.ref k :: rest))) : W p l e R s m args below meth c H locs cells slots Q (F0 m pc ls (.int v :: rest)) := by
  obtain ⟨u, z, hP, hD⟩ := hW
  refine va_newa (atype := .int) hexec hb harr rfl hK hP hD hS (fun q hq => Nat.le_trans hz hq) (a0 := (n, .inl z0)) (fun _ => rfl) hn hN hbytes hcells hslots hdg (fun k cA H1 hK1 hP1 hD1 hS1 => ?_)
  have hc := kSameI hK hK1
  subst hc
  exact kk k H1 ⟨u, z, by rw [wCl_app]; exact hP1, by rw [wCl_app]; exact hD1⟩ hS1
end KA
