-- the words of nest mates: they hold of a state and go on holding (part 10: written by wip/whole/gen/mkbase.py)
def kn_F : List (String × Nat × String × String × String × String) := [("VerseColumns$MapReader", 32, "VerseColumns$Book", "verses", "I", "VerseColumns"), ("VerseColumns", 76, "VerseColumns$Book", "verses", "I", "VerseColumns"), ("VerseColumns$Reach", 33, "VerseColumns$GroupMap", "groups", "I", "VerseColumns"), ("VerseColumns$Layout", 43, "VerseColumns$GroupMap", "groups", "I", "VerseColumns"), ("VerseColumns", 133, "VerseColumns$GroupMap", "groups", "I", "VerseColumns"), ("VerseColumns$MapReader", 26, "VerseColumns$State", "left", "LVerseColumns$Book;", "VerseColumns"), ("VerseColumns$Layout", 68, "VerseColumns$State", "left", "LVerseColumns$Book;", "VerseColumns"), ("VerseColumns", 154, "VerseColumns$State", "left", "LVerseColumns$Book;", "VerseColumns"), ("VerseColumns$MapReader", 41, "VerseColumns$State", "right", "LVerseColumns$Book;", "VerseColumns"), ("VerseColumns$Layout", 78, "VerseColumns$State", "right", "LVerseColumns$Book;", "VerseColumns"), ("VerseColumns", 158, "VerseColumns$State", "right", "LVerseColumns$Book;", "VerseColumns"), ("VerseColumns", 88, "VerseColumns$State", "map", "LVerseColumns$GroupMap;", "VerseColumns"), ("VerseColumns$Layout", 37, "VerseColumns$State", "map", "LVerseColumns$GroupMap;", "VerseColumns"), ("VerseColumns", 172, "VerseColumns$History", "states", "I", "VerseColumns"), ("VerseColumns$MapReader", 59, "VerseColumns$Text", "length", "I", "VerseColumns"), ("VerseColumns", 181, "VerseColumns$Text", "length", "I", "VerseColumns"), ("VerseColumns$ReferenceReader", 44, "VerseColumns$Text", "place", "I", "VerseColumns"), ("VerseColumns$ReferenceReader", 51, "VerseColumns$Text", "fault", "I", "VerseColumns"), ("VerseColumns$MapReader", 66, "VerseColumns$Text", "fault", "I", "VerseColumns"), ("VerseColumns$MapReader", 72, "VerseColumns$Text", "number", "I", "VerseColumns"), ("VerseColumns$ReferenceReader", 58, "VerseColumns$Text", "number", "I", "VerseColumns"), ("VerseColumns", 188, "VerseColumns$ReferenceReader", "first", "I", "VerseColumns"), ("VerseColumns", 191, "VerseColumns$ReferenceReader", "last", "I", "VerseColumns"), ("VerseColumns", 146, "VerseColumns$MapReader", "map", "LVerseColumns$GroupMap;", "VerseColumns"), ("VerseColumns", 213, "VerseColumns$Layout", "pageHeight", "I", "VerseColumns"), ("VerseColumns", 216, "VerseColumns$Layout", "headingHeight", "I", "VerseColumns"), ("VerseColumns", 222, "VerseColumns$Layout", "pages", "I", "VerseColumns"), ("VerseColumns", 275, "VerseColumns$Layout", "emptyLines", "I", "VerseColumns")]
def kn_M : List (String × Nat × MethodName × String) := [("VerseColumns", 11, ⟨"VerseColumns$State", "<init>", "()V"⟩, "VerseColumns"), ("VerseColumns$State", 11, ⟨"VerseColumns$Book", "<init>", "()V"⟩, "VerseColumns"), ("VerseColumns$State", 23, ⟨"VerseColumns$GroupMap", "<init>", "()V"⟩, "VerseColumns"), ("VerseColumns$History", 17, ⟨"VerseColumns$State", "<init>", "()V"⟩, "VerseColumns"), ("VerseColumns", 25, ⟨"VerseColumns$Text", "<init>", "()V"⟩, "VerseColumns"), ("VerseColumns", 32, ⟨"VerseColumns$ReferenceReader", "<init>", "()V"⟩, "VerseColumns"), ("VerseColumns", 39, ⟨"VerseColumns$MapReader", "<init>", "()V"⟩, "VerseColumns"), ("VerseColumns$MapReader", 11, ⟨"VerseColumns$GroupMap", "<init>", "()V"⟩, "VerseColumns"), ("VerseColumns", 46, ⟨"VerseColumns$Reach", "<init>", "()V"⟩, "VerseColumns"), ("VerseColumns", 53, ⟨"VerseColumns$Layout", "<init>", "()V"⟩, "VerseColumns"), ("VerseColumns$Book", 33, ⟨"VerseColumns", "cellOf", "([II)I"⟩, "VerseColumns"), ("VerseColumns$History", 25, ⟨"VerseColumns", "isWithin", "(III)Z"⟩, "VerseColumns"), ("VerseColumns$Book", 21, ⟨"VerseColumns", "copyRow", "([I[I)V"⟩, "VerseColumns"), ("VerseColumns$GroupMap", 18, ⟨"VerseColumns", "copyRow", "([I[I)V"⟩, "VerseColumns"), ("VerseColumns$Book", 51, ⟨"VerseColumns", "openCell", "([III)V"⟩, "VerseColumns"), ("VerseColumns$GroupMap", 30, ⟨"VerseColumns", "cellOf", "([II)I"⟩, "VerseColumns"), ("VerseColumns$GroupMap", 49, ⟨"VerseColumns", "closeCells", "([IIII)V"⟩, "VerseColumns"), ("VerseColumns$Book", 79, ⟨"VerseColumns", "linesFor", "(II)I"⟩, "VerseColumns"), ("VerseColumns$Layout", 97, ⟨"VerseColumns", "cellOf", "([II)I"⟩, "VerseColumns"), ("VerseColumns$Text", 19, ⟨"VerseColumns", "isWithin", "(III)Z"⟩, "VerseColumns"), ("VerseColumns$ReferenceReader", 67, ⟨"VerseColumns", "isWithin", "(III)Z"⟩, "VerseColumns"), ("VerseColumns$Book", 47, ⟨"VerseColumns", "isWithin", "(III)Z"⟩, "VerseColumns"), ("VerseColumns$Reach", 40, ⟨"VerseColumns", "otherBook", "(I)I"⟩, "VerseColumns"), ("VerseColumns$Book", 71, ⟨"VerseColumns", "closeCells", "([IIII)V"⟩, "VerseColumns"), ("VerseColumns$GroupMap", 53, ⟨"VerseColumns", "openCell", "([III)V"⟩, "VerseColumns")]
def kN (U : State) : Prop := (∀ q ∈ kn_F, va_Nw (.fieldLinkNest q.1 q.2.1 q.2.2.1 q.2.2.2.1 q.2.2.2.2.1 q.2.2.2.2.2) U) ∧ (∀ q ∈ kn_M, va_Nw (.methodLinkNest q.1 q.2.1 q.2.2.1 q.2.2.2) U) ∧ va_AO RX7 U
theorem kN.warm {s U : State} (hW : s.WarmedH U.vm) (h : kN s) : kN U := ⟨fun q hq => va_Nw.warmF hW (h.1 q hq), fun q hq => va_Nw.warmM hW (h.2.1 q hq), va_AO.moved hW.alike h.2.2⟩
theorem kN.same {u U : State} (h : u.vm = U.vm) (hN : kN u) : kN U := ⟨fun q hq => va_Nw.same rfl h (hN.1 q hq), fun q hq => va_Nw.same rfl h (hN.2.1 q hq), va_AO.moved (h ▸ Vm.Alike.refl u.vm) hN.2.2⟩
theorem kN.f {s : State} (h : kN s) (k : Nat) {args : Array Value} {a r n d ho : String} {i : Nat} (hk : kn_F[k]? = some (a, i, r, n, d, ho)) : (Cond.fieldLinkNest a i r n d ho).before args s = true := va_Nw.use rfl (h.1 _ (List.mem_of_getElem? hk))
theorem kN.m {s : State} (h : kN s) (k : Nat) {a ho : String} {y : MethodName} {i : Nat} (hk : kn_M[k]? = some (a, i, y, ho)) : va_Nw (.methodLinkNest a i y ho) s := h.2.1 _ (List.mem_of_getElem? hk)
-- the array classes of a run: ints, chars, rows of State
abbrev kTy (cI cC cS : ClassId) : List (ClassId × FieldType) := [(cI, .int), (cC, .char), (cS, .object RX7)]
-- a method's start: its world, what the tables say
def kPre (D : va_G) (tys : List (ClassId × FieldType)) (ws : va_W) (sz : Nat) (U : State) : Prop := U.heap.size = sz ∧ va_P D vwCl ws U.heap ∧ va_K D vwCl tys U ∧ va_D (fun _ => True) ws ∧ kN U
-- a method's end: its world
def kPost (D : va_G) (ws : va_W) (A : Nat → Prop) (t : State) : Prop := va_P D vwCl ws t.heap ∧ va_D A ws
theorem kPre.blind {av : List Value} {D : va_G} {tys : List (ClassId × FieldType)} {ws : va_W} {sz : Nat} : FrameBlind (va_Pc av (kPre D tys ws sz)) := fun a U g mk q => ⟨q.1, q.2.1, q.2.2.1, va_K.moved (u := U) (U := U.calling g mk a) (Vm.Alike.refl U.vm) q.2.2.2.1, q.2.2.2.2.1, kN.same (u := U) (U := U.calling g mk a) rfl q.2.2.2.2.2⟩
-- contracts: an int, nothing, a reference
abbrev kMi (l : Launch) (y : MethodName) (wsy : List Cond) (rm : Room) (D : va_G) (tys : List (ClassId × FieldType)) (av : List Value) (wc : va_W) (sz : Nat) (res : Int32) (wc' : va_W) : Prop := Met l y wsy rm (va_Pc av (kPre D tys wc sz)) (va_Qi (fun (r : Int32) (_ : Unit) => r = res) (fun _ => kPost D wc' (va_A wc sz)) (va_A wc sz)) 0 0 (va_A wc sz)
abbrev kMv (l : Launch) (y : MethodName) (wsy : List Cond) (rm : Room) (D : va_G) (tys : List (ClassId × FieldType)) (av : List Value) (wc : va_W) (sz : Nat) (wc' : va_W) : Prop := Met l y wsy rm (va_Pc av (kPre D tys wc sz)) (va_Qv (fun (_ : Unit) => True) (fun _ => kPost D wc' (va_A wc sz)) (va_A wc sz)) 0 0 (va_A wc sz)
abbrev kMr (l : Launch) (y : MethodName) (wsy : List Cond) (rm : Room) (D : va_G) (tys : List (ClassId × FieldType)) (av : List Value) (wc : va_W) (sz : Nat) (res : Nat) (wc' : va_W) : Prop := Met l y wsy rm (va_Pc av (kPre D tys wc sz)) (va_Qr (fun (_ : Unit) => True) (fun _ a t => a = res ∧ kPost D wc' (va_A wc sz) t) (va_A wc sz)) 0 0 (va_A wc sz)
-- a callee's start out of the caller's world: its cells are among the caller's
theorem kSubP {D : va_G} {cl : List vw_C} {ws wc : va_W} {H : Heap} (hP : va_P D cl ws H) (hm : ∀ q ∈ wc, q ∈ ws) : va_P D cl wc H := by
  intro k q hk
  obtain ⟨i, hi⟩ := List.getElem?_of_mem (hm q (List.mem_of_getElem? hk))
  exact hP i q hi
theorem kMem {ws wc : va_W} (is : List Nat) (hC : is.map (fun i => ws[i]?) = wc.map some) : ∀ q ∈ wc, q ∈ ws := by
  intro q hq
  have h1 : some q ∈ wc.map some := List.mem_map_of_mem hq
  rw [← hC] at h1
  obtain ⟨i, -, hi⟩ := List.mem_map.mp h1
  exact List.mem_of_getElem? hi
theorem kpre {s : State} {H : Heap} {D : va_G} {tys : List (ClassId × FieldType)} {A : Nat → Prop} {ws wc : va_W} {av : List Value} (hK : va_K D vwCl tys s) (hN : kN s) (hP : va_P D vwCl ws H) (hD : va_D A ws) (is : List Nat) (hC : is.map (fun i => ws[i]?) = wc.map some) (hn : va_nd is = true) : PreS s H (va_Pc av (kPre D tys wc H.size)) av :=
  ⟨kPre.blind, fun U hU hW => ⟨rfl, by rw [hU], by rw [hU]; exact kSubP hP (kMem is hC), va_K.moved hW.alike hK, (hD.sub is hn hC).weaken (fun _ _ _ _ => trivial), kN.warm hW hN⟩⟩
theorem kpreV {s : State} {H : Heap} {D : va_G} {tys : List (ClassId × FieldType)} {A : Nat → Prop} {ws wc : va_W} {b : Nat} {As : List Value} {C : String} (hK : va_K D vwCl tys s) (hN : kN s) (hP : va_P D vwCl ws H) (hD : va_D A ws) (is : List Nat) (hC : is.map (fun i => ws[i]?) = wc.map some) (hn : va_nd is = true) (ci : Nat) {fs : List Value} {T : u_T} {n : Nat} (he : wc[0]? = some (b, .inr (ci, fs))) (hc : vwCl[ci]? = some (C, T, n)) : PreV s H C b (va_Pc (.ref b :: As) (kPre D tys wc H.size)) As :=
  ⟨kPre.blind, va_recv (q := (C, T, n)) hK (kSubP hP (kMem is hC)) hc he, (kpre hK hN hP hD is hC hn).2⟩
-- behind a call that leaves its world as it was
theorem kRo {D : va_G} {cl : List vw_C} {A : Nat → Prop} {ws wc : va_W} {H H1 : Heap} (hP : va_P D cl ws H) (hD : va_D A ws) (hm : ∀ q ∈ wc, q ∈ ws) (hk : ∀ q : Nat, q < H.size → ¬ va_A wc H.size q → H1[q]? = H[q]?) (hP1 : va_P D cl wc H1) : va_P D cl ws H1 := by
  intro k q hq
  obtain ⟨qa, qe⟩ := q
  by_cases h : va_A wc H.size qa
  · rcases h with ⟨k2, e, h⟩ | h
    · have hw := hm _ (List.mem_of_getElem? h)
      obtain ⟨j, hj⟩ := List.getElem?_of_mem hw
      have := hD.1 k j (qa, qe) (qa, e) hq hj rfl
      subst this
      rw [hq] at hj
      cases hj
      exact hP1 k2 _ h
    · exact absurd (hP k (qa, qe) hq).lt (Nat.not_lt.mpr h)
  · exact (hP k (qa, qe) hq).kept (hk qa (hP k (qa, qe) hq).lt h)
-- cells put in the places of others, by a mask: 0 keeps, k + 1 takes the callee's cell k
def kIdx : List Nat → Nat → Nat
  | [], _ => 0
  | i :: is, j => if i = j then 1 else if kIdx is j = 0 then 0 else kIdx is j + 1
theorem kIdx_0 : ∀ (is : List Nat) (j : Nat), kIdx is j = 0 → j ∉ is
  | [], j, _ => List.not_mem_nil
  | i :: is, j, h => by
    unfold kIdx at h
    by_cases g : i = j
    · rw [if_pos g] at h; cases h
    · rw [if_neg g] at h
      by_cases g2 : kIdx is j = 0
      · simp only [List.mem_cons, not_or]
        exact ⟨fun z => g z.symm, kIdx_0 is j g2⟩
      · rw [if_neg g2] at h; cases h
theorem kIdx_s : ∀ (is : List Nat) (j k : Nat), kIdx is j = k + 1 → is[k]? = some j
  | [], j, k, h => by cases h
  | i :: is, j, k, h => by
    unfold kIdx at h
    by_cases g : i = j
    · rw [if_pos g] at h
      have : k = 0 := by omega
      subst this
      rw [g]; rfl
    · rw [if_neg g] at h
      by_cases g2 : kIdx is j = 0
      · rw [if_pos g2] at h; cases h
      · rw [if_neg g2] at h
        obtain ⟨k2, rfl⟩ : ∃ k2, k = k2 + 1 := ⟨k - 1, by omega⟩
        exact kIdx_s is j k2 (by omega)
def kMk : List Nat → va_W → va_W → va_W
  | 0 :: m, q :: ws, wc => q :: kMk m ws wc
  | (k + 1) :: m, q :: ws, wc => (wc[k]?).getD q :: kMk m ws wc
  | _, _, _ => []
theorem kMk_get : ∀ (m : List Nat) (ws wc : va_W) (j : Nat) (q : Nat × va_E), (kMk m ws wc)[j]? = some q → (m[j]? = some 0 ∧ ws[j]? = some q) ∨ ∃ (k : Nat) (r : Nat × va_E), m[j]? = some (k + 1) ∧ ws[j]? = some r ∧ (wc[k]?).getD r = q
  | 0 :: m, r :: ws, wc, 0, q, h => Or.inl ⟨rfl, h⟩
  | (k + 1) :: m, r :: ws, wc, 0, q, h => Or.inr ⟨k, r, rfl, rfl, Option.some.inj h⟩
  | 0 :: m, r :: ws, wc, j + 1, q, h => kMk_get m ws wc j q h
  | (k + 1) :: m, r :: ws, wc, j + 1, q, h => kMk_get m ws wc j q h
  | [], ws, wc, j, q, h => by have h2 : ([] : va_W)[j]? = some q := h; simp at h2
  | 0 :: m, [], wc, j, q, h => by have h2 : ([] : va_W)[j]? = some q := h; simp at h2
  | (k + 1) :: m, [], wc, j, q, h => by have h2 : ([] : va_W)[j]? = some q := h; simp at h2
theorem kMk_key {isC m : List Nat} {ws wc : va_W} (hm : (List.range m.length).map (kIdx isC) = m) (hl : isC.length = wc.length) (j : Nat) (q : Nat × va_E) (h : (kMk m ws wc)[j]? = some q) : (∃ k : Nat, isC[k]? = some j ∧ wc[k]? = some q) ∨ (j ∉ isC ∧ ws[j]? = some q) := by
  have idx : ∀ x : Nat, m[j]? = some x → kIdx isC j = x := by
    intro x hx
    have hj : j < m.length := (List.getElem?_eq_some_iff.mp hx).1
    have h2 : ((List.range m.length).map (kIdx isC))[j]? = m[j]? := by rw [hm]
    rw [List.getElem?_map, List.getElem?_range hj, hx] at h2
    exact Option.some.inj h2
  rcases kMk_get m ws wc j q h with ⟨h1, h2⟩ | ⟨k, r, h1, h2, h3⟩
  · exact Or.inr ⟨kIdx_0 _ _ (idx 0 h1), h2⟩
  · have h4 := kIdx_s _ _ _ (idx (k + 1) h1)
    have hk : k < wc.length := by rw [← hl]; exact (List.getElem?_eq_some_iff.mp h4).1
    refine Or.inl ⟨k, h4, ?_⟩
    rw [List.getElem?_eq_getElem hk] at h3 ⊢
    rw [← h3]; rfl
section KC
variable {p : Program} {l : Launch} {e : Env} {R : Room} {s : State} {m : MethodId} {args : Array Value} {below : List Frame} {meth : Method} {c : Code} {H : Heap} {locs : List Loc} {cells slots : Nat} {Q : State → Prop} {pc : Nat} {ls : Array Slot} {rest st0 : List Value} {a : Array Value} {A : Nat → Prop} {D : va_G} {ws wc wc' ws' : va_W}
theorem kFree {ws wc : va_W} (hD : va_D A ws) (hS : va_S A s.heap H locs) (hA : ∀ q, s.heap.size ≤ q → A q) (hm : ∀ q ∈ wc, q ∈ ws) : ∀ q, va_A wc H.size q → A q := by
  intro q h
  rcases h with ⟨k, e, h⟩ | h
  · obtain ⟨i, hi⟩ := List.getElem?_of_mem (hm _ (List.mem_of_getElem? h))
    exact hD.2 i (q, e) hi
  · exact hA q (Nat.le_trans hS.1 h)
theorem kSiz {Pr : Prop} (f : Pr) : Pr := f
-- a call that answers an int and leaves its world
theorem kcir {res : Int32} (isC : List Nat) (hr : va_Run p l e R s m args below meth c H locs cells slots 0 0 (F0 m pc ls st0) rest (va_Qi (fun (r : Int32) (_ : Unit) => r = res) (fun _ => kPost D wc (va_A wc H.size)) (va_A wc H.size) a) (va_A wc H.size)) (hP : va_P D vwCl ws H) (hD : va_D A ws) (hS : va_S A s.heap H locs) (hA : ∀ q, s.heap.size ≤ q → A q) (hC : isC.map (fun i => ws[i]?) = wc.map some)
    (kk : ∀ (H1 : Heap) (locs1 : List Loc), va_P D vwCl ws H1 → va_S A s.heap H1 locs1 → W p l e R s m args below meth c H1 locs1 cells slots Q (F0 m (pc + 3) ls (.int res :: rest))) : W p l e R s m args below meth c H locs cells slots Q (F0 m pc ls st0) := by
  have hF := kFree hD hS hA (kMem isC hC)
  refine va_calli hr hS (fun q _ h => hF q h) hF (fun r u t H1 locs1 ht hvm hw hB hz hk hS1 => ?_)
  subst hw
  obtain ⟨hB1, -⟩ := hB
  rw [ht] at hB1
  exact kk H1 locs1 (kRo hP hD (kMem isC hC) hk hB1) hS1
theorem kcrr {res : Nat} (isC : List Nat) (hr : va_Run p l e R s m args below meth c H locs cells slots 0 0 (F0 m pc ls st0) rest (va_Qr (fun (_ : Unit) => True) (fun _ a t => a = res ∧ kPost D wc (va_A wc H.size) t) (va_A wc H.size) a) (va_A wc H.size)) (hP : va_P D vwCl ws H) (hD : va_D A ws) (hS : va_S A s.heap H locs) (hA : ∀ q, s.heap.size ≤ q → A q) (hC : isC.map (fun i => ws[i]?) = wc.map some)
    (kk : ∀ (H1 : Heap) (locs1 : List Loc), va_P D vwCl ws H1 → va_S A s.heap H1 locs1 → W p l e R s m args below meth c H1 locs1 cells slots Q (F0 m (pc + 3) ls (.ref res :: rest))) : W p l e R s m args below meth c H locs cells slots Q (F0 m pc ls st0) := by
  have hF := kFree hD hS hA (kMem isC hC)
  refine va_callr hr hS (fun q _ h => hF q h) hF (fun u ra t H1 locs1 ht hvm hw hB hz hk hS1 => ?_)
  obtain ⟨hra, hB1, -⟩ := hB
  subst hra
  rw [ht] at hB1
  exact kk H1 locs1 (kRo hP hD (kMem isC hC) hk hB1) hS1
-- behind a call that changes its world: the changed cells stand in the places of the old ones
theorem kScP {H1 : Heap} (hP : va_P D vwCl ws H) (hD : va_D A ws) (isC : List Nat) (hC : isC.map (fun i => ws[i]?) = wc.map some) (hn : va_nd isC = true) (ha : wc'.map Prod.fst = wc.map Prod.fst) (mk : List Nat) (hm : (List.range mk.length).map (kIdx isC) = mk) (hw : kMk mk ws wc' = ws')
    (hk : ∀ q : Nat, q < H.size → ¬ va_A wc H.size q → H1[q]? = H[q]?) (hP1 : va_P D vwCl wc' H1) : va_P D vwCl ws' H1 ∧ va_D A ws' := by
  have hlen : isC.length = wc.length := by have := congrArg List.length hC; simpa using this
  have hlen2 : wc'.length = wc.length := by have := congrArg List.length ha; simpa using this
  have at1 : ∀ (k i : Nat) (q : Nat × va_E), isC[k]? = some i → wc[k]? = some q → ws[i]? = some q := by
    intro k i q h1 h2
    have h3 : (isC.map (fun i => ws[i]?))[k]? = (wc.map some)[k]? := by rw [hC]
    rw [List.getElem?_map, List.getElem?_map, h1, h2] at h3
    exact Option.some.inj h3
  have at2 : ∀ (k : Nat) (q : Nat × va_E), wc'[k]? = some q → ∃ e, wc[k]? = some (q.1, e) := by
    intro k q h1
    have h3 : (wc'.map Prod.fst)[k]? = (wc.map Prod.fst)[k]? := by rw [ha]
    rw [List.getElem?_map, List.getElem?_map, h1] at h3
    cases h4 : wc[k]? with
    | none => rw [h4] at h3; cases h3
    | some r =>
      rw [h4] at h3
      have h5 : q.1 = r.1 := Option.some.inj h3
      exact ⟨r.2, by rw [h5]⟩
  have hcond : ∀ (k i : Nat) (q : Nat × va_E), isC[k]? = some i → wc'[k]? = some q → ∃ e, ws[i]? = some (q.1, e) := by
    intro k i q h1 h2
    obtain ⟨e, h3⟩ := at2 k q h2
    exact ⟨e, at1 k i _ h1 h3⟩
  subst hw
  have key := fun (j : Nat) (q : Nat × va_E) => kMk_key (ws := ws) (wc := wc') hm (by rw [hlen, hlen2]) j q
  refine ⟨?_, ?_, ?_⟩
  · intro j q hq
    rcases key j q hq with ⟨k, h1, h2⟩ | ⟨h1, h2⟩
    · exact hP1 k q h2
    · refine (hP j q h2).kept (hk q.1 (hP j q h2).lt ?_)
      intro hh
      rcases hh with ⟨k, e, h3⟩ | h3
      · have hlt : k < isC.length := by rw [hlen]; exact (List.getElem?_eq_some_iff.mp h3).1
        have h4 : isC[k]? = some isC[k] := List.getElem?_eq_getElem hlt
        have h5 := at1 k _ _ h4 h3
        have h6 := hD.1 j _ q (q.1, e) h2 h5 rfl
        exact h1 (by rw [h6]; exact List.getElem_mem hlt)
      · exact absurd (hP j q h2).lt (Nat.not_lt.mpr h3)
  · intro i j x y hi hj hxy
    have f : ∀ (j : Nat) (q : Nat × va_E), (kMk mk ws wc')[j]? = some q → ∃ e, ws[j]? = some (q.1, e) := by
      intro j q hq
      rcases key j q hq with ⟨k, h1, h2⟩ | ⟨h1, h2⟩
      · exact hcond k j q h1 h2
      · exact ⟨q.2, h2⟩
    obtain ⟨e1, h1⟩ := f i x hi
    obtain ⟨e2, h2⟩ := f j y hj
    exact hD.1 i j _ _ h1 h2 hxy
  · intro j q hq
    rcases key j q hq with ⟨k, h1, h2⟩ | ⟨h1, h2⟩
    · obtain ⟨e, h3⟩ := hcond k j q h1 h2
      exact hD.2 j (q.1, e) h3
    · exact hD.2 j q h2
theorem kciw {res : Int32} (isC : List Nat) (hr : va_Run p l e R s m args below meth c H locs cells slots 0 0 (F0 m pc ls st0) rest (va_Qi (fun (r : Int32) (_ : Unit) => r = res) (fun _ => kPost D wc' (va_A wc H.size)) (va_A wc H.size) a) (va_A wc H.size)) (hP : va_P D vwCl ws H) (hD : va_D A ws) (hS : va_S A s.heap H locs) (hA : ∀ q, s.heap.size ≤ q → A q) (hC : isC.map (fun i => ws[i]?) = wc.map some) (hn : va_nd isC = true) (ha : wc'.map Prod.fst = wc.map Prod.fst) (mk : List Nat) (hm : (List.range mk.length).map (kIdx isC) = mk) (hw : kMk mk ws wc' = ws')
    (kk : ∀ (H1 : Heap) (locs1 : List Loc), va_P D vwCl ws' H1 → va_D A ws' → va_S A s.heap H1 locs1 → W p l e R s m args below meth c H1 locs1 cells slots Q (F0 m (pc + 3) ls (.int res :: rest))) : W p l e R s m args below meth c H locs cells slots Q (F0 m pc ls st0) := by
  have hF := kFree hD hS hA (kMem isC hC)
  refine va_calli hr hS (fun q _ h => hF q h) hF (fun r u t H1 locs1 ht hvm hw2 hB hz hk hS1 => ?_)
  subst hw2
  obtain ⟨hB1, hB2⟩ := hB
  rw [ht] at hB1
  obtain ⟨h1, h2⟩ := kScP hP hD isC hC hn ha mk hm hw hk hB1
  exact kk H1 locs1 h1 h2 hS1
theorem kcvw (isC : List Nat) (hr : va_Run p l e R s m args below meth c H locs cells slots 0 0 (F0 m pc ls st0) rest (va_Qv (fun (_ : Unit) => True) (fun _ => kPost D wc' (va_A wc H.size)) (va_A wc H.size) a) (va_A wc H.size)) (hP : va_P D vwCl ws H) (hD : va_D A ws) (hS : va_S A s.heap H locs) (hA : ∀ q, s.heap.size ≤ q → A q) (hC : isC.map (fun i => ws[i]?) = wc.map some) (hn : va_nd isC = true) (ha : wc'.map Prod.fst = wc.map Prod.fst) (mk : List Nat) (hm : (List.range mk.length).map (kIdx isC) = mk) (hw : kMk mk ws wc' = ws')
    (kk : ∀ (H1 : Heap) (locs1 : List Loc), va_P D vwCl ws' H1 → va_D A ws' → va_S A s.heap H1 locs1 → W p l e R s m args below meth c H1 locs1 cells slots Q (F0 m (pc + 3) ls rest)) : W p l e R s m args below meth c H locs cells slots Q (F0 m pc ls st0) := by
  have hF := kFree hD hS hA (kMem isC hC)
  refine va_callv hr hS (fun q _ h => hF q h) hF (fun u t H1 locs1 ht hvm hw2 hB hz hk hS1 => ?_)
  obtain ⟨hB1, hB2⟩ := hB
  rw [ht] at hB1
  obtain ⟨h1, h2⟩ := kScP hP hD isC hC hn ha mk hm hw hk hB1
  exact kk H1 locs1 h1 h2 hS1
end KC
-- constructors: what is new stands behind the object
abbrev kMc {σ : Type} (l : Launch) (y : MethodName) (wsy : List Cond) (rm : Room) (D : va_G) (tys : List (ClassId × FieldType)) (av : List Value) (wc : va_W) (sz mc ms : Nat) (w1 : σ → va_W) : Prop := Met l y wsy rm (va_Pc av (kPre D tys wc sz)) (va_Qv (fun (_ : Unit) => True) (fun _ t => ∃ u : σ, kPost D (w1 u) (va_A wc sz) t) (va_A wc sz)) mc ms (va_A wc sz)
theorem kSameI {D : va_G} {cI cC cS cA : ClassId} {s : State} (hK : va_K D vwCl (kTy cI cC cS) s) (h : va_K D vwCl (kTy cI cC cS ++ [(cA, .int)]) s) : cI = cA := Option.some.inj (((hK.2 0 (cI, .int) rfl).2 : s.vm.findClass _ = some cI).symm.trans ((h.2 3 (cA, .int) rfl).2 : s.vm.findClass _ = some cA))
theorem kSameC {D : va_G} {cI cC cS cA : ClassId} {s : State} (hK : va_K D vwCl (kTy cI cC cS) s) (h : va_K D vwCl (kTy cI cC cS ++ [(cA, .char)]) s) : cC = cA := Option.some.inj (((hK.2 1 (cC, .char) rfl).2 : s.vm.findClass _ = some cC).symm.trans ((h.2 3 (cA, .char) rfl).2 : s.vm.findClass _ = some cA))
theorem kSameS {D : va_G} {cI cC cS cA : ClassId} {s : State} (hK : va_K D vwCl (kTy cI cC cS) s) (h : va_K D vwCl (kTy cI cC cS ++ [(cA, .object RX7)]) s) : cS = cA := by
  obtain ⟨_, _, _, _, _, h1⟩ := (hK.2 2 (cS, .object RX7) rfl).2
  obtain ⟨_, _, _, _, _, h2⟩ := (h.2 3 (cA, .object RX7) rfl).2
  exact Option.some.inj (h1.symm.trans h2)
section KN
variable {p : Program} {l : Launch} {e : Env} {R : Room} {s : State} {m : MethodId} {args : Array Value} {below : List Frame} {meth : Method} {c : Code} {H : Heap} {locs : List Loc} {cells slots mc ms : Nat} {Q : State → Prop} {pc : Nat} {ls : Array Slot} {rest st0 : List Value} {a : Array Value} {A : Nat → Prop} {D : va_G} {wsp : va_W}
theorem kRange {α : Type} (xs ys : List α) : (List.range xs.length).map (fun i => (xs ++ ys)[i]?) = xs.map some := by
  refine List.ext_getElem? fun j => ?_
  rw [List.getElem?_map, List.getElem?_map]
  by_cases h : j < xs.length
  · rw [List.getElem?_range h, List.getElem?_eq_getElem h]
    show some ((xs ++ ys)[j]?) = some (some xs[j])
    rw [List.getElem?_append_left h, List.getElem?_eq_getElem h]
  · rw [List.getElem?_eq_none (by rw [List.length_range]; omega), List.getElem?_eq_none (by omega)]
    rfl
theorem kNdR : ∀ (n k : Nat), va_nd ((List.range' k n)) = true
  | 0, _ => rfl
  | n + 1, k => by
    show va_nd (k :: List.range' (k + 1) n) = true
    simp only [va_nd, Bool.and_eq_true, decide_eq_true_eq]
    exact ⟨fun h => by have := (List.mem_range'_1.mp h).1; omega, kNdR n (k + 1)⟩
theorem kcn {σ : Type} {q : Nat} {ce : va_E} {w1 : σ → va_W} (hr : va_Run p l e R s m args below meth c H locs cells slots mc ms (F0 m pc ls st0) rest (va_Qv (fun (_ : Unit) => True) (fun _ t => ∃ u : σ, kPost D (w1 u) (va_A [(q, ce)] H.size) t) (va_A [(q, ce)] H.size) a) (va_A [(q, ce)] H.size)) (hP : va_P D vwCl (wsp ++ [(q, ce)]) H) (hD : va_D A (wsp ++ [(q, ce)])) (hS : va_S A s.heap H locs) (hA : ∀ q, s.heap.size ≤ q → A q)
    (kk : ∀ (u : σ) (H1 : Heap) (locs1 : List Loc), va_P D vwCl (wsp ++ w1 u) H1 → va_D A (wsp ++ w1 u) → va_S A s.heap H1 locs1 → W p l e R s m args below meth c H1 locs1 (cells + mc) (slots + ms) Q (F0 m (pc + 3) ls rest)) : W p l e R s m args below meth c H locs cells slots Q (F0 m pc ls st0) := by
  have hC : [wsp.length].map (fun i => (wsp ++ [(q, ce)])[i]?) = [(q, ce)].map some := by simp
  have hF := kFree hD hS hA (kMem [wsp.length] hC)
  refine va_callv hr hS (fun q _ h => hF q h) hF (fun u t H1 locs1 ht hvm hw hB hz hk hS1 => ?_)
  obtain ⟨u2, hB1, hB2⟩ := hB
  rw [ht] at hB1
  obtain ⟨h1, h2⟩ := va_join (wr := wsp) (w1 := w1 u2) hP hD [wsp.length] (List.range wsp.length) hC (kRange wsp _) (by rw [List.range_eq_range']; exact kNdR _ _) (fun i hi hj => by have := List.mem_range.mp hi; rw [List.mem_singleton] at hj; omega) hk hF hB1 hB2
  exact kk u2 H1 locs1 h1 h2 hS1
end KN
def z0 : Nat → Int32 := fun _ => 0
-- narrow ints: truth values and chars
def kB (x : Int32) : Prop := x = 0 ∨ x = 1
theorem kB.n {x : Int32} (h : x = 0 ∨ x = 1) : narrow .boolean (.int x) = .int x := by rcases h with rfl | rfl <;> rfl
theorem kCh {x : Int32} (h : vp_nar .char x = x) : narrow .char (.int x) = .int x := by
  have h2 : narrow .char (.int x) = .int (vp_nar .char x) := rfl
  rw [h2, h]
theorem kif {α : Type} {c : Prop} [Decidable c] {x : Option α} {y : α} (h : (if c then x else none) = some y) : c ∧ x = some y := by
  by_cases g : c
  · rw [if_pos g] at h; exact ⟨g, h⟩
  · rw [if_neg g] at h; cases h
abbrev kIn (i : Int32) (n : Nat) : Prop := 0 ≤ i.toInt ∧ i.toInt < (n : Int)
def kC (x : Int32) : Int32 := (x.toUInt32 % 65536).toInt32
theorem kin {i : Int32} {n : Nat} (h : 0 ≤ i.toInt ∧ i.toInt < n) : vp_in i n := vp_in_iff.mpr h

-- the worlds: objects with their arrays, in blocks
abbrev vBK : Type := (Nat → Int32) × (Nat → Int32) × (Nat → Int32) × Int32
abbrev vMP : Type := (Nat → Int32) × (Nat → Int32) × Int32
abbrev vLY : Type := Int32 × Int32 × Int32 × Int32 × (Nat → Int32) × (Nat → Int32) × (Nat → Int32) × (Nat → Int32) × Int32 × Int32 × Int32
abbrev vMR : Type := Int32 × Int32
abbrev vRE : Type := Int32 × Int32 × Int32 × Int32 × Int32 × Int32 × Int32
abbrev vRR : Type := Int32 × Int32
abbrev vTX : Type := (Nat → Int32) × Int32 × Int32 × Int32 × Int32 × Int32
abbrev vHC : Type := Int32
abbrev vMD : Type := (Nat → Int32) × (Nat → Int32) × Int32 × Int32 × (Nat → Int32) × Int32 × Int32 × Int32 × Int32 × Int32 × Int32 × (Nat → Int32) × (Nat → Int32) × Int32 × Int32 × (Nat → Int32) × Int32 × Int32 × Int32 × (Nat → Int32) × (Nat → Int32) × (Nat → Int32) × (Nat → Int32)
abbrev vAR : Type := (Nat → Int32)
def wBK (cI : ClassId) (a : Nat × Nat × Nat × Nat) (v0 : (Nat → Int32)) (v1 : (Nat → Int32)) (v2 : (Nat → Int32)) (v3 : Int32) : va_W := [(a.1, .inr (0, [.ref (a.2.1), .ref (a.2.2.1), .ref (a.2.2.2), .int v3])), (a.2.1, .inl (cI, 60, .inl v0)), (a.2.2.1, .inl (cI, 60, .inl v1)), (a.2.2.2, .inl (cI, 60, .inl v2))]
def wMP (cI : ClassId) (a : Nat × Nat × Nat) (v0 : (Nat → Int32)) (v1 : (Nat → Int32)) (v2 : Int32) : va_W := [(a.1, .inr (1, [.ref (a.2.1), .ref (a.2.2), .int v2])), (a.2.1, .inl (cI, 120, .inl v0)), (a.2.2, .inl (cI, 120, .inl v1))]
def wLY (cI : ClassId) (a : Nat × Nat × Nat × Nat × Nat) (v0 : Int32) (v1 : Int32) (v2 : Int32) (v3 : Int32) (v4 : (Nat → Int32)) (v5 : (Nat → Int32)) (v6 : (Nat → Int32)) (v7 : (Nat → Int32)) (v8 : Int32) (v9 : Int32) (v10 : Int32) : va_W := [(a.1, .inr (3, [.int v0, .int v1, .int v2, .int v3, .ref (a.2.1), .ref (a.2.2.1), .ref (a.2.2.2.1), .ref (a.2.2.2.2), .int v8, .int v9, .int v10])), (a.2.1, .inl (cI, 120, .inl v4)), (a.2.2.1, .inl (cI, 120, .inl v5)), (a.2.2.2.1, .inl (cI, 120, .inl v6)), (a.2.2.2.2, .inl (cI, 120, .inl v7))]
def wMR (a : Nat) (x0 : Nat) (v0 : Int32) (v1 : Int32) : va_W := [(a, .inr (4, [.ref x0, .int v0, .int v1]))]
def wRE (a : Nat) (v0 : Int32) (v1 : Int32) (v2 : Int32) (v3 : Int32) (v4 : Int32) (v5 : Int32) (v6 : Int32) : va_W := [(a, .inr (5, [.int v0, .int v1, .int v2, .int v3, .int v4, .int v5, .int v6]))]
def wRR (a : Nat) (v0 : Int32) (v1 : Int32) : va_W := [(a, .inr (6, [.int v0, .int v1]))]
def wSC (a : Nat) (x0 : Nat) (x1 : Nat) (x2 : Nat) : va_W := [(a, .inr (7, [.ref x0, .ref x1, .ref x2]))]
def wTX (cC : ClassId) (a : Nat × Nat) (v0 : (Nat → Int32)) (v1 : Int32) (v2 : Int32) (v3 : Int32) (v4 : Int32) (v5 : Int32) : va_W := [(a.1, .inr (8, [.ref (a.2), .int v1, .int v2, .int v3, .int v4, .int v5])), (a.2, .inl (cC, 80, .inl v0))]
def wVC (a : Nat) (x0 : Nat) (x1 : Nat) (x2 : Nat) (x3 : Nat) (x4 : Nat) (x5 : Nat) (x6 : Nat) : va_W := [(a, .inr (9, [.ref x0, .ref x1, .ref x2, .ref x3, .ref x4, .ref x5, .ref x6]))]
def wHC (a : Nat) (x0 : Nat) (v0 : Int32) : va_W := [(a, .inr (2, [.ref x0, .int v0]))]
def wMD (cC : ClassId) (cI : ClassId) (a : Nat × Nat × Nat × Nat × Nat × Nat × Nat × Nat × Nat × Nat × Nat) (v0 : (Nat → Int32)) (v1 : (Nat → Int32)) (v2 : Int32) (v3 : Int32) (v4 : (Nat → Int32)) (v5 : Int32) (v6 : Int32) (v7 : Int32) (v8 : Int32) (v9 : Int32) (v10 : Int32) (v11 : (Nat → Int32)) (v12 : (Nat → Int32)) (v13 : Int32) (v14 : Int32) (v15 : (Nat → Int32)) (v16 : Int32) (v17 : Int32) (v18 : Int32) (v19 : (Nat → Int32)) (v20 : (Nat → Int32)) (v21 : (Nat → Int32)) (v22 : (Nat → Int32)) : va_W := [(a.1, .inr (10, [.ref (a.2.1), .ref (a.2.2.1), .int v2, .int v3, .ref (a.2.2.2.1), .int v5, .int v6, .int v7, .int v8, .int v9, .int v10, .ref (a.2.2.2.2.1), .ref (a.2.2.2.2.2.1), .int v13, .int v14, .ref (a.2.2.2.2.2.2.1), .int v16, .int v17, .int v18, .ref (a.2.2.2.2.2.2.2.1), .ref (a.2.2.2.2.2.2.2.2.1), .ref (a.2.2.2.2.2.2.2.2.2.1), .ref (a.2.2.2.2.2.2.2.2.2.2)])), (a.2.1, .inl (cI, 605, .inl v0)), (a.2.2.1, .inl (cI, 3025, .inl v1)), (a.2.2.2.1, .inl (cC, 80, .inl v4)), (a.2.2.2.2.1, .inl (cI, 120, .inl v11)), (a.2.2.2.2.2.1, .inl (cI, 120, .inl v12)), (a.2.2.2.2.2.2.1, .inl (cI, 2, .inl v15)), (a.2.2.2.2.2.2.2.1, .inl (cI, 120, .inl v19)), (a.2.2.2.2.2.2.2.2.1, .inl (cI, 120, .inl v20)), (a.2.2.2.2.2.2.2.2.2.1, .inl (cI, 120, .inl v21)), (a.2.2.2.2.2.2.2.2.2.2, .inl (cI, 120, .inl v22))]
def wAR (cI : ClassId) (a : Nat) (n : Nat) (v0 : (Nat → Int32)) : va_W := [(a, .inl (cI, n, .inl v0))]
abbrev vST : Type := vBK × vBK × vMP
abbrev aST : Type := Nat × (Nat × Nat × Nat × Nat) × (Nat × Nat × Nat × Nat) × (Nat × Nat × Nat)
def wST (cI : ClassId) (a : aST) (v : vST) : va_W := wSC a.1 a.2.1.1 a.2.2.1.1 a.2.2.2.1 ++ (wBK cI a.2.1 v.1.1 v.1.2.1 v.1.2.2.1 v.1.2.2.2 ++ (wBK cI a.2.2.1 v.2.1.1 v.2.1.2.1 v.2.1.2.2.1 v.2.1.2.2.2 ++ wMP cI a.2.2.2 v.2.2.1 v.2.2.2.1 v.2.2.2.2))
abbrev aHI : Type := Nat × Nat × aST × aST × aST × aST × aST
def hRo (a : aHI) (r : Nat) : Nat → Option Nat := fun k => match r, k with
  | 0, 0 => some a.2.2.1.1
  | 0, 1 => some a.2.2.2.1.1
  | 0, 2 => some a.2.2.2.2.1.1
  | 0, 3 => some a.2.2.2.2.2.1.1
  | 0, 4 => some a.2.2.2.2.2.2.1
  | 1, 0 => some a.2.2.2.1.1
  | 1, 1 => some a.2.2.2.2.1.1
  | 1, 2 => some a.2.2.2.2.2.1.1
  | 1, 3 => some a.2.2.2.2.2.2.1
  | 1, 4 => some a.2.2.1.1
  | _, _ => none
def wHF (cI cS : ClassId) (a : aHI) (n : Int32) (f : Nat → Option Nat) (v0 v1 v2 v3 v4 : vST) : va_W := [(a.1, .inr (2, [.ref a.2.1, .int n])), (a.2.1, .inl (cS, 5, .inr (.inr (.inr (.inr f)))))] ++ (wST cI a.2.2.1 v0 ++ (wST cI a.2.2.2.1 v1 ++ (wST cI a.2.2.2.2.1 v2 ++ (wST cI a.2.2.2.2.2.1 v3 ++ wST cI a.2.2.2.2.2.2 v4))))
abbrev wHI (cI cS : ClassId) (a : aHI) (n : Int32) (r : Nat) (v0 v1 v2 v3 v4 : vST) : va_W := wHF cI cS a n (hRo a r) v0 v1 v2 v3 v4
theorem kHFP {D : va_G} {cI cS : ClassId} {a : aHI} {n : Int32} {f g : Nat → Option Nat} {v0 v1 v2 v3 v4 : vST} {H : Heap} (hP : va_P D vwCl (wHF cI cS a n f v0 v1 v2 v3 v4) H) (h : ∀ j, j < 5 → f j = g j) : va_P D vwCl (wHF cI cS a n g v0 v1 v2 v3 v4) H := by
  intro k q hk
  match k, hk with
  | 0, hk => exact hP 0 q hk
  | 1, hk =>
    have h1 : H[a.2.1]? = some (vp_cell cS (5, .inr (.inr (.inr (.inr f))))) := hP 1 (a.2.1, .inl (cS, 5, .inr (.inr (.inr (.inr f))))) rfl
    have h2 : some (a.2.1, (Sum.inl (cS, 5, .inr (.inr (.inr (.inr g)))) : va_E)) = some q := hk
    obtain rfl := Option.some.inj h2
    show H[a.2.1]? = some (vp_cell cS (5, .inr (.inr (.inr (.inr g)))))
    rw [h1, vp_cell_q, vp_cell_q]
    unfold arrV
    have e : (fun j : Fin 5 => va_rf (f j.val)) = fun j : Fin 5 => va_rf (g j.val) := funext fun j => by rw [h j.val j.isLt]
    rw [e]
  | k + 2, hk => exact hP (k + 2) q hk
theorem kHFD {A : Nat → Prop} {cI cS : ClassId} {a : aHI} {n : Int32} {f g : Nat → Option Nat} {v0 v1 v2 v3 v4 : vST} (hD : va_D A (wHF cI cS a n f v0 v1 v2 v3 v4)) : va_D A (wHF cI cS a n g v0 v1 v2 v3 v4) := by
  have key : ∀ (k : Nat) (q : Nat × va_E), (wHF cI cS a n g v0 v1 v2 v3 v4)[k]? = some q → ∃ e, (wHF cI cS a n f v0 v1 v2 v3 v4)[k]? = some (q.1, e) := by
    intro k q hk
    match k, hk with
    | 0, hk => exact ⟨q.2, hk⟩
    | 1, hk =>
      have h2 : some (a.2.1, (Sum.inl (cS, 5, .inr (.inr (.inr (.inr g)))) : va_E)) = some q := hk
      obtain rfl := Option.some.inj h2
      exact ⟨_, rfl⟩
    | k + 2, hk => exact ⟨q.2, hk⟩
  refine ⟨fun i j p q hi hj e => ?_, fun k q hk => ?_⟩
  · obtain ⟨e1, h1⟩ := key i p hi
    obtain ⟨e2, h2⟩ := key j q hj
    exact hD.1 i j (p.1, e1) (q.1, e2) h1 h2 e
  · obtain ⟨e1, h1⟩ := key k q hk
    exact hD.2 k (q.1, e1) h1

abbrev zST : vST := ((z0, z0, z0, 0), (z0, z0, z0, 0), (z0, z0, 0))
def wMO (a x0 x1 : Nat) (v : Int32) : va_W := [(a, .inr (1, [.ref x0, .ref x1, .int v]))]
def wMX (cI : ClassId) (a : Nat × Nat × Nat) (v0 v1 : Nat → Int32) (v2 : Int32) : va_W := [(a.1, .inr (1, [.ref (a.2.2), .ref (a.2.1), .int v2])), (a.2.1, .inl (cI, 120, .inl v0)), (a.2.2, .inl (cI, 120, .inl v1))]
-- a row's values count only within it
theorem kcell_congr {cA : ClassId} {n : Nat} {f g : Nat → Int32} (h : ∀ j, j < n → f j = g j) : vp_cell cA (n, .inl f) = vp_cell cA (n, .inl g) := by
  rw [vp_cell_i, vp_cell_i]
  unfold arrV
  have e : (fun j : Fin n => Value.int (f j.val)) = fun j : Fin n => Value.int (g j.val) := funext fun j => by rw [h j.val j.isLt]
  rw [e]
theorem kcpyP {D : va_G} {cI : ClassId} {a b n : Nat} {u f g : Nat → Int32} {H : Heap} (hP : va_P D vwCl (wAR cI a n u ++ wAR cI b n f) H) (h : ∀ j, j < n → f j = g j) : va_P D vwCl (wAR cI a n u ++ wAR cI b n g) H := by
  intro k q hk
  match k, hk with
  | 0, hk => exact hP 0 q hk
  | 1, hk =>
    have h1 := hP 1 (b, .inl (cI, n, .inl f)) rfl
    have h2 : some (b, (Sum.inl (cI, n, .inl g) : va_E)) = some q := hk
    obtain rfl := Option.some.inj h2
    have h3 : H[b]? = some (vp_cell cI (n, .inl f)) := h1
    show H[b]? = some (vp_cell cI (n, .inl g))
    rw [h3, kcell_congr h]
  | k + 2, hk => have h2 : (none : Option (Nat × va_E)) = some q := hk; cases h2
theorem kAddr {a n b : Nat} {cI : ClassId} {u f g : Nat → Int32} (k : Nat) (q : Nat × va_E) (hk : (wAR cI a n u ++ wAR cI b n g)[k]? = some q) : ∃ e, (wAR cI a n u ++ wAR cI b n f)[k]? = some (q.1, e) := by
  match k, hk with
  | 0, hk => exact ⟨q.2, hk⟩
  | 1, hk =>
    have h2 : some (b, (Sum.inl (cI, n, .inl g) : va_E)) = some q := hk
    obtain rfl := Option.some.inj h2
    exact ⟨_, rfl⟩
  | k + 2, hk => have h2 : (none : Option (Nat × va_E)) = some q := hk; cases h2
theorem kcpyD {a n b : Nat} {cI : ClassId} {u f g : Nat → Int32} (i j : Nat) (p q : Nat × va_E) (h : ∀ (i j : Nat) (p q : Nat × va_E), (wAR cI a n u ++ wAR cI b n f)[i]? = some p → (wAR cI a n u ++ wAR cI b n f)[j]? = some q → p.1 = q.1 → i = j) (hi : (wAR cI a n u ++ wAR cI b n g)[i]? = some p) (hj : (wAR cI a n u ++ wAR cI b n g)[j]? = some q) : p.1 = q.1 → i = j := by
  obtain ⟨e1, h1⟩ := kAddr (f := f) i p hi
  obtain ⟨e2, h2⟩ := kAddr (f := f) j q hj
  exact h i j (p.1, e1) (q.1, e2) h1 h2
theorem kcpyDA {a n b : Nat} {cI : ClassId} {u f g : Nat → Int32} {A : Nat → Prop} (k : Nat) (q : Nat × va_E) (h : ∀ (k : Nat) (q : Nat × va_E), (wAR cI a n u ++ wAR cI b n f)[k]? = some q → A q.1) (hk : (wAR cI a n u ++ wAR cI b n g)[k]? = some q) : A q.1 := by
  obtain ⟨e1, h1⟩ := kAddr (f := f) k q hk
  exact h k (q.1, e1) h1