-- the state that the law sees, and each method of the class on it (printed by wip/p24/fun/mk49.py)
abbrev vHs : Type := Int32 × vST × vST × vST × vST × vST
abbrev Sg : Type := vST × vHs × ((Nat → Int32) × Int32) × ((Nat → Int32) × (Nat → Int32)) × (Int32 × Int32 × Int32 × Int32)
noncomputable def cho (P : Int32 → Prop) : Option Int32 := @dite _ (∃ a, P a) (Classical.propDecidable _) (fun h => some h.choose) (fun _ => none)
theorem cho_of {P : Int32 → Prop} {a : Int32} (h : cho P = some a) : P a := by
  unfold cho at h
  split at h
  · rename_i z
    have := Option.some.inj h
    rw [← this]
    exact z.choose_spec
  · cases h
theorem cho_is {P : Int32 → Prop} {a : Int32} (ha : P a) (hu : ∀ b, P b → b = a) : cho P = some a := by
  unfold cho
  split
  · rename_i z
    rw [hu _ z.choose_spec]
  · rename_i z
    exact absurd ⟨a, ha⟩ z
def tYi (e : Option (Int32 × (Nat → Int32) × (Nat → Int32) × (Nat → Int32) × (Nat → Int32) × Int32 × Int32 × Int32)) (a : Int32) : Prop := ∃ (z4 z5 z6 z7 : Nat → Int32) (z8 z9 z10 : Int32), e = some (a, z4, z5, z6, z7, z8, z9, z10)
def tEi (e : Option (Int32 × Int32 × Int32 × Int32 × Int32 × Int32 × Int32 × Int32 × Int32 × Int32 × Int32 × Int32 × Int32 × Int32)) (a : Int32) : Prop := ∃ z0 z1 z2 z3 z4 z5 z6 z7 z8 z9 z10 z11 z12 : Int32, e = some (a, z0, z1, z2, z3, z4, z5, z6, z7, z8, z9, z10, z11, z12)
def nH (k : Int32) (r : Nat) (t0 t1 t2 t3 t4 : vST) : Option vHs := if r = 0 then some (k, t0, t1, t2, t3, t4) else if r = 1 then some (k, t1, t2, t3, t4, t0) else none
def sChapter (x : Sg) (i1 : Int32) (i2 : Int32) (i3 : Int32) : Option Int32 := pX9_chapter x.1.1.1 x.1.1.2.1 x.1.1.2.2.2 x.1.2.1.1 x.1.2.1.2.1 x.1.2.1.2.2.2 i1 i2 i3
def sVerse (x : Sg) (i1 : Int32) (i2 : Int32) (i3 : Int32) : Option Int32 := pX9_verse x.1.1.1 x.1.1.2.1 x.1.1.2.2.1 x.1.1.2.2.2 x.1.2.1.1 x.1.2.1.2.1 x.1.2.1.2.2.1 x.1.2.1.2.2.2 x.2.2.2.2.1 x.2.2.2.2.2.1 i1 i2 i3
def sBeside (x : Sg) (i1 : Int32) (i2 : Int32) (i3 : Int32) : Option Int32 := pX9_beside x.1.1.2.2.2 x.1.2.1.2.2.2 x.1.2.2.1 x.1.2.2.2.1 x.1.2.2.2.2 i1 i2 i3
def nPage (x : Sg) (i1 : Int32) (i2 : Int32) (a : Int32) : Prop := ∀ (z_Y4 : (Nat → Int32)) (z_Y5 : (Nat → Int32)) (z_Y6 : (Nat → Int32)) (z_Y7 : (Nat → Int32)) (z_Y8 : Int32) (z_Y9 : Int32) (z_Y10 : Int32), tYi (pX9_page x.1.1.1 x.1.1.2.1 x.1.1.2.2.1 x.1.1.2.2.2 x.1.2.1.1 x.1.2.1.2.1 x.1.2.1.2.2.1 x.1.2.1.2.2.2 x.1.2.2.1 x.1.2.2.2.1 x.1.2.2.2.2 x.2.2.2.2.1 x.2.2.2.2.2.1 x.2.2.2.2.2.2.1 x.2.2.2.2.2.2.2 z_Y4 z_Y5 z_Y6 z_Y7 z_Y8 z_Y9 z_Y10 i1 i2) a
noncomputable def sPage (x : Sg) (i1 : Int32) (i2 : Int32) : Option Int32 := cho (nPage x i1 i2)
theorem nPage.s {x : Sg} {i1 : Int32} {i2 : Int32} {a : Int32} (h : nPage x i1 i2 a) : sPage x i1 i2 = some a := cho_is h (fun b hb => by
  obtain ⟨_, _, _, _, _, _, _, h1⟩ := h z0 z0 z0 z0 0 0 0
  obtain ⟨_, _, _, _, _, _, _, h2⟩ := hb z0 z0 z0 z0 0 0 0
  rw [h1] at h2
  exact (congrArg Prod.fst (Option.some.inj h2)).symm)
theorem sPage.n {x : Sg} {i1 : Int32} {i2 : Int32} {a : Int32} (h : sPage x i1 i2 = some a) : nPage x i1 i2 a := cho_of h
def nGroup (x : Sg) (i1 : Int32) (i2 : Int32) (a : Int32) : Prop := ∀ (z_Y4 : (Nat → Int32)) (z_Y5 : (Nat → Int32)) (z_Y6 : (Nat → Int32)) (z_Y7 : (Nat → Int32)) (z_Y8 : Int32) (z_Y9 : Int32) (z_Y10 : Int32), tYi (pX9_group x.1.1.1 x.1.1.2.1 x.1.1.2.2.1 x.1.1.2.2.2 x.1.2.1.1 x.1.2.1.2.1 x.1.2.1.2.2.1 x.1.2.1.2.2.2 x.1.2.2.1 x.1.2.2.2.1 x.1.2.2.2.2 x.2.2.2.2.1 x.2.2.2.2.2.1 x.2.2.2.2.2.2.1 x.2.2.2.2.2.2.2 z_Y4 z_Y5 z_Y6 z_Y7 z_Y8 z_Y9 z_Y10 i1 i2) a
noncomputable def sGroup (x : Sg) (i1 : Int32) (i2 : Int32) : Option Int32 := cho (nGroup x i1 i2)
theorem nGroup.s {x : Sg} {i1 : Int32} {i2 : Int32} {a : Int32} (h : nGroup x i1 i2 a) : sGroup x i1 i2 = some a := cho_is h (fun b hb => by
  obtain ⟨_, _, _, _, _, _, _, h1⟩ := h z0 z0 z0 z0 0 0 0
  obtain ⟨_, _, _, _, _, _, _, h2⟩ := hb z0 z0 z0 z0 0 0 0
  rw [h1] at h2
  exact (congrArg Prod.fst (Option.some.inj h2)).symm)
theorem sGroup.n {x : Sg} {i1 : Int32} {i2 : Int32} {a : Int32} (h : sGroup x i1 i2 = some a) : nGroup x i1 i2 a := cho_of h
def nCount (x : Sg) (i1 : Int32) (a : Int32) : Prop := ∀ (z_Y4 : (Nat → Int32)) (z_Y5 : (Nat → Int32)) (z_Y6 : (Nat → Int32)) (z_Y7 : (Nat → Int32)) (z_Y8 : Int32) (z_Y9 : Int32) (z_Y10 : Int32), tYi (pX9_count x.1.1.1 x.1.1.2.1 x.1.1.2.2.1 x.1.1.2.2.2 x.1.2.1.1 x.1.2.1.2.1 x.1.2.1.2.2.1 x.1.2.1.2.2.2 x.1.2.2.1 x.1.2.2.2.1 x.1.2.2.2.2 x.2.1.1 x.2.2.2.2.1 x.2.2.2.2.2.1 x.2.2.2.2.2.2.1 x.2.2.2.2.2.2.2 z_Y4 z_Y5 z_Y6 z_Y7 z_Y8 z_Y9 z_Y10 i1) a
noncomputable def sCount (x : Sg) (i1 : Int32) : Option Int32 := cho (nCount x i1)
theorem nCount.s {x : Sg} {i1 : Int32} {a : Int32} (h : nCount x i1 a) : sCount x i1 = some a := cho_is h (fun b hb => by
  obtain ⟨_, _, _, _, _, _, _, h1⟩ := h z0 z0 z0 z0 0 0 0
  obtain ⟨_, _, _, _, _, _, _, h2⟩ := hb z0 z0 z0 z0 0 0 0
  rw [h1] at h2
  exact (congrArg Prod.fst (Option.some.inj h2)).symm)
theorem sCount.n {x : Sg} {i1 : Int32} {a : Int32} (h : sCount x i1 = some a) : nCount x i1 a := cho_of h
def nRefer (x : Sg) (i1 : Int32) (i2 : Int32) (a : Int32) : Prop := ∀ (z_T2 : Int32) (z_T3 : Int32) (z_T4 : Int32) (z_T5 : Int32) (z_U0 : Int32) (z_U1 : Int32) (z_E0 : Int32) (z_E1 : Int32) (z_E2 : Int32) (z_E3 : Int32) (z_E4 : Int32) (z_E5 : Int32) (z_E6 : Int32), tEi (pX9_refer x.1.1.1 x.1.1.2.2.2 x.1.2.1.1 x.1.2.1.2.2.2 x.1.2.2.1 x.1.2.2.2.1 x.1.2.2.2.2 x.2.2.1.1 x.2.2.1.2 z_T2 z_T3 z_T4 z_T5 z_U0 z_U1 z_E0 z_E1 z_E2 z_E3 z_E4 z_E5 z_E6 i1 i2) a
noncomputable def sRefer (x : Sg) (i1 : Int32) (i2 : Int32) : Option Int32 := cho (nRefer x i1 i2)
theorem nRefer.s {x : Sg} {i1 : Int32} {i2 : Int32} {a : Int32} (h : nRefer x i1 i2 a) : sRefer x i1 i2 = some a := cho_is h (fun b hb => by
  obtain ⟨_, _, _, _, _, _, _, _, _, _, _, _, _, h1⟩ := h 0 0 0 0 0 0 0 0 0 0 0 0 0
  obtain ⟨_, _, _, _, _, _, _, _, _, _, _, _, _, h2⟩ := hb 0 0 0 0 0 0 0 0 0 0 0 0 0
  rw [h1] at h2
  exact (congrArg Prod.fst (Option.some.inj h2)).symm)
theorem sRefer.n {x : Sg} {i1 : Int32} {i2 : Int32} {a : Int32} (h : sRefer x i1 i2 = some a) : nRefer x i1 i2 a := cho_of h
def sType (x : Sg) (i1 : Int32) : Option (Int32 × Sg) := (pX9_type x.2.2.1.1 x.2.2.1.2 i1).bind fun ⟨a, T0, T1⟩ => some (a, (x.1, x.2.1, (T0, T1), x.2.2.2.1, x.2.2.2.2))
def sClearText (x : Sg)  : Option (Int32 × Sg) := (pX9_clearText x.2.2.1.2).bind fun ⟨a, T1⟩ => some (a, (x.1, x.2.1, (x.2.2.1.1, T1), x.2.2.2.1, x.2.2.2.2))
def sSetWidth (x : Sg) (i1 : Int32) (i2 : Int32) : Option (Int32 × Sg) := (pX9_setWidth x.2.2.2.2.1 x.2.2.2.2.2.1 i1 i2).bind fun ⟨a, Y0, Y1⟩ => some (a, (x.1, x.2.1, x.2.2.1, x.2.2.2.1, (Y0, Y1, x.2.2.2.2.2.2.1, x.2.2.2.2.2.2.2)))
def sSetHeights (x : Sg) (i1 : Int32) (i2 : Int32) : Option (Int32 × Sg) := (pX9_setHeights x.2.2.2.2.2.2.1 x.2.2.2.2.2.2.2 i1 i2).bind fun ⟨a, Y2, Y3⟩ => some (a, (x.1, x.2.1, x.2.2.1, x.2.2.2.1, (x.2.2.2.2.1, x.2.2.2.2.2.1, Y2, Y3)))
def sAddChapter (x : Sg) (i1 : Int32) (i2 : Int32) (i3 : Int32) : Option (Int32 × Sg) := (pX9_addChapter x.1.1.1 x.1.1.2.1 x.1.1.2.2.1 x.1.1.2.2.2 x.1.2.1.1 x.1.2.1.2.1 x.1.2.1.2.2.1 x.1.2.1.2.2.2 x.1.2.2.1 x.1.2.2.2.1 x.1.2.2.2.2 x.2.1.1 x.2.1.2.1 x.2.1.2.2.1 x.2.1.2.2.2.1 x.2.1.2.2.2.2.1 x.2.1.2.2.2.2.2 i1 i2 i3).bind fun ⟨a, L0, L1, L2, L3, R0, R1, R2, R3, M0, M1, M2, K, r, t0, t1, t2, t3, t4⟩ => (nH K r t0 t1 t2 t3 t4).bind fun h => some (a, (((L0, L1, L2, L3), (R0, R1, R2, R3), (M0, M1, M2)), h, x.2.2.1, x.2.2.2.1, x.2.2.2.2))
def sSetVerse (x : Sg) (i1 : Int32) (i2 : Int32) (i3 : Int32) (i4 : Int32) : Option (Int32 × Sg) := (pX9_setVerse x.1.1.1 x.1.1.2.1 x.1.1.2.2.1 x.1.1.2.2.2 x.1.2.1.1 x.1.2.1.2.1 x.1.2.1.2.2.1 x.1.2.1.2.2.2 x.1.2.2.1 x.1.2.2.2.1 x.1.2.2.2.2 x.2.1.1 x.2.1.2.1 x.2.1.2.2.1 x.2.1.2.2.2.1 x.2.1.2.2.2.2.1 x.2.1.2.2.2.2.2 i1 i2 i3 i4).bind fun ⟨a, L1, L2, R1, R2, K, r, t0, t1, t2, t3, t4⟩ => (nH K r t0 t1 t2 t3 t4).bind fun h => some (a, (((x.1.1.1, L1, L2, x.1.1.2.2.2), (x.1.2.1.1, R1, R2, x.1.2.1.2.2.2), (x.1.2.2.1, x.1.2.2.2.1, x.1.2.2.2.2)), h, x.2.2.1, x.2.2.2.1, x.2.2.2.2))
def sJoinVerses (x : Sg) (i1 : Int32) (i2 : Int32) : Option (Int32 × Sg) := (pX9_joinVerses x.1.1.1 x.1.1.2.1 x.1.1.2.2.1 x.1.1.2.2.2 x.1.2.1.1 x.1.2.1.2.1 x.1.2.1.2.2.1 x.1.2.1.2.2.2 x.1.2.2.1 x.1.2.2.2.1 x.1.2.2.2.2 x.2.1.1 x.2.1.2.1 x.2.1.2.2.1 x.2.1.2.2.2.1 x.2.1.2.2.2.2.1 x.2.1.2.2.2.2.2 i1 i2).bind fun ⟨a, L0, L1, L2, L3, R0, R1, R2, R3, M0, M1, M2, K, r, t0, t1, t2, t3, t4⟩ => (nH K r t0 t1 t2 t3 t4).bind fun h => some (a, (((L0, L1, L2, L3), (R0, R1, R2, R3), (M0, M1, M2)), h, x.2.2.1, x.2.2.2.1, x.2.2.2.2))
def sSplitVerse (x : Sg) (i1 : Int32) (i2 : Int32) (i3 : Int32) : Option (Int32 × Sg) := (pX9_splitVerse x.1.1.1 x.1.1.2.1 x.1.1.2.2.1 x.1.1.2.2.2 x.1.2.1.1 x.1.2.1.2.1 x.1.2.1.2.2.1 x.1.2.1.2.2.2 x.1.2.2.1 x.1.2.2.2.1 x.1.2.2.2.2 x.2.1.1 x.2.1.2.1 x.2.1.2.2.1 x.2.1.2.2.2.1 x.2.1.2.2.2.2.1 x.2.1.2.2.2.2.2 i1 i2 i3).bind fun ⟨a, L0, L1, L2, L3, R0, R1, R2, R3, M0, M1, K, r, t0, t1, t2, t3, t4⟩ => (nH K r t0 t1 t2 t3 t4).bind fun h => some (a, (((L0, L1, L2, L3), (R0, R1, R2, R3), (M0, M1, x.1.2.2.2.2)), h, x.2.2.1, x.2.2.2.1, x.2.2.2.2))
def sLink (x : Sg) (i1 : Int32) : Option (Int32 × Sg) := (pX9_link x.1.1.1 x.1.1.2.1 x.1.1.2.2.1 x.1.1.2.2.2 x.1.2.1.1 x.1.2.1.2.1 x.1.2.1.2.2.1 x.1.2.1.2.2.2 x.1.2.2.1 x.1.2.2.2.1 x.1.2.2.2.2 x.2.1.1 x.2.1.2.1 x.2.1.2.2.1 x.2.1.2.2.2.1 x.2.1.2.2.2.2.1 x.2.1.2.2.2.2.2 i1).bind fun ⟨a, M0, M1, M2, K, r, t0, t1, t2, t3, t4⟩ => (nH K r t0 t1 t2 t3 t4).bind fun h => some (a, (((x.1.1.1, x.1.1.2.1, x.1.1.2.2.1, x.1.1.2.2.2), (x.1.2.1.1, x.1.2.1.2.1, x.1.2.1.2.2.1, x.1.2.1.2.2.2), (M0, M1, M2)), h, x.2.2.1, x.2.2.2.1, x.2.2.2.2))
def sPart (x : Sg) (i1 : Int32) (i2 : Int32) (i3 : Int32) : Option (Int32 × Sg) := (pX9_part x.1.1.1 x.1.1.2.1 x.1.1.2.2.1 x.1.1.2.2.2 x.1.2.1.1 x.1.2.1.2.1 x.1.2.1.2.2.1 x.1.2.1.2.2.2 x.1.2.2.1 x.1.2.2.2.1 x.1.2.2.2.2 x.2.1.1 x.2.1.2.1 x.2.1.2.2.1 x.2.1.2.2.2.1 x.2.1.2.2.2.2.1 x.2.1.2.2.2.2.2 i1 i2 i3).bind fun ⟨a, M0, M1, M2, K, r, t0, t1, t2, t3, t4⟩ => (nH K r t0 t1 t2 t3 t4).bind fun h => some (a, (((x.1.1.1, x.1.1.2.1, x.1.1.2.2.1, x.1.1.2.2.2), (x.1.2.1.1, x.1.2.1.2.1, x.1.2.1.2.2.1, x.1.2.1.2.2.2), (M0, M1, M2)), h, x.2.2.1, x.2.2.2.1, x.2.2.2.2))
def sReadMap (x : Sg)  : Option (Int32 × Sg) := (pX9_readMap x.1.1.1 x.1.1.2.1 x.1.1.2.2.1 x.1.1.2.2.2 x.1.2.1.1 x.1.2.1.2.1 x.1.2.1.2.2.1 x.1.2.1.2.2.2 x.1.2.2.1 x.1.2.2.2.1 x.1.2.2.2.2 x.2.1.1 x.2.1.2.1 x.2.1.2.2.1 x.2.1.2.2.2.1 x.2.1.2.2.2.2.1 x.2.1.2.2.2.2.2 x.2.2.1.1 x.2.2.1.2 x.2.2.2.1.1 x.2.2.2.1.2).bind fun ⟨a, M0, M1, M2, K, r, t0, t1, t2, t3, t4, _, _, _, _, _, _, N0, N1, _⟩ => (nH K r t0 t1 t2 t3 t4).bind fun h => some (a, (((x.1.1.1, x.1.1.2.1, x.1.1.2.2.1, x.1.1.2.2.2), (x.1.2.1.1, x.1.2.1.2.1, x.1.2.1.2.2.1, x.1.2.1.2.2.2), (M0, M1, M2)), h, x.2.2.1, (N0, N1), x.2.2.2.2))
def sPairAll (x : Sg)  : Option (Int32 × Sg) := (pX9_pairAll x.1.1.1 x.1.1.2.1 x.1.1.2.2.1 x.1.1.2.2.2 x.1.2.1.1 x.1.2.1.2.1 x.1.2.1.2.2.1 x.1.2.1.2.2.2 x.1.2.2.1 x.1.2.2.2.1 x.1.2.2.2.2 x.2.1.1 x.2.1.2.1 x.2.1.2.2.1 x.2.1.2.2.2.1 x.2.1.2.2.2.2.1 x.2.1.2.2.2.2.2).bind fun ⟨a, M0, M1, M2, K, r, t0, t1, t2, t3, t4⟩ => (nH K r t0 t1 t2 t3 t4).bind fun h => some (a, (((x.1.1.1, x.1.1.2.1, x.1.1.2.2.1, x.1.1.2.2.2), (x.1.2.1.1, x.1.2.1.2.1, x.1.2.1.2.2.1, x.1.2.1.2.2.2), (M0, M1, M2)), h, x.2.2.1, x.2.2.2.1, x.2.2.2.2))
def sExchange (x : Sg)  : Option (Int32 × Sg) := (pX9_exchange x.1.1.1 x.1.1.2.1 x.1.1.2.2.1 x.1.1.2.2.2 x.1.2.1.1 x.1.2.1.2.1 x.1.2.1.2.2.1 x.1.2.1.2.2.2 x.1.2.2.1 x.1.2.2.2.1 x.1.2.2.2.2 x.2.1.1 x.2.1.2.1 x.2.1.2.2.1 x.2.1.2.2.2.1 x.2.1.2.2.2.2.1 x.2.1.2.2.2.2.2).bind fun ⟨a, K, r, t0, t1, t2, t3, t4⟩ => (nH K r t0 t1 t2 t3 t4).bind fun h => some (a, (((x.1.2.1.1, x.1.2.1.2.1, x.1.2.1.2.2.1, x.1.2.1.2.2.2), (x.1.1.1, x.1.1.2.1, x.1.1.2.2.1, x.1.1.2.2.2), (x.1.2.2.2.1, x.1.2.2.1, x.1.2.2.2.2)), h, x.2.2.1, x.2.2.2.1, x.2.2.2.2))
def sUndo (x : Sg)  : Option (Int32 × Sg) := (pX9_undo x.1.1.1 x.1.1.2.1 x.1.1.2.2.1 x.1.1.2.2.2 x.1.2.1.1 x.1.2.1.2.1 x.1.2.1.2.2.1 x.1.2.1.2.2.2 x.1.2.2.1 x.1.2.2.2.1 x.1.2.2.2.2 x.2.1.1 x.2.1.2.1 x.2.1.2.2.1 x.2.1.2.2.2.1 x.2.1.2.2.2.2.1 x.2.1.2.2.2.2.2).bind fun ⟨a, L0, L1, L2, L3, R0, R1, R2, R3, M0, M1, M2, K⟩ => some (a, (((L0, L1, L2, L3), (R0, R1, R2, R3), (M0, M1, M2)), (K, x.2.1.2), x.2.2.1, x.2.2.2.1, x.2.2.2.2))
