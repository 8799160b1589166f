-- blocks in another order
theorem lwp_VSLR {α : Type} (bV bS bL bR bM bH bT bU bJ bN bE bY X : List α) : (bV ++ (bS ++ (bL ++ (bR ++ (bM ++ (bH ++ (bT ++ (bU ++ (bJ ++ (bN ++ (bE ++ (bY ++ X)))))))))))).Perm ((bM ++ (bH ++ (bT ++ (bU ++ (bJ ++ (bN ++ (bE ++ (bY ++ X)))))))) ++ (bV ++ (bS ++ (bL ++ bR)))) := by
  haveI : DecidableEq α := fun a b => Classical.propDecidable (a = b)
  exact List.perm_iff_count.mpr (fun x => by simp only [List.count_append]; omega)
theorem lwp_VSLRY {α : Type} (bV bS bL bR bM bH bT bU bJ bN bE bY X : List α) : (bV ++ (bS ++ (bL ++ (bR ++ (bM ++ (bH ++ (bT ++ (bU ++ (bJ ++ (bN ++ (bE ++ (bY ++ X)))))))))))).Perm ((bM ++ (bH ++ (bT ++ (bU ++ (bJ ++ (bN ++ (bE ++ X))))))) ++ (bV ++ (bS ++ (bL ++ (bR ++ bY))))) := by
  haveI : DecidableEq α := fun a b => Classical.propDecidable (a = b)
  exact List.perm_iff_count.mpr (fun x => by simp only [List.count_append]; omega)
theorem lwp_VSLRM {α : Type} (bV bS bL bR bM bH bT bU bJ bN bE bY X : List α) : (bV ++ (bS ++ (bL ++ (bR ++ (bM ++ (bH ++ (bT ++ (bU ++ (bJ ++ (bN ++ (bE ++ (bY ++ X)))))))))))).Perm ((bH ++ (bT ++ (bU ++ (bJ ++ (bN ++ (bE ++ (bY ++ X))))))) ++ (bV ++ (bS ++ (bL ++ (bR ++ bM))))) := by
  haveI : DecidableEq α := fun a b => Classical.propDecidable (a = b)
  exact List.perm_iff_count.mpr (fun x => by simp only [List.count_append]; omega)
theorem lwp_VSLRMY {α : Type} (bV bS bL bR bM bH bT bU bJ bN bE bY X : List α) : (bV ++ (bS ++ (bL ++ (bR ++ (bM ++ (bH ++ (bT ++ (bU ++ (bJ ++ (bN ++ (bE ++ (bY ++ X)))))))))))).Perm ((bH ++ (bT ++ (bU ++ (bJ ++ (bN ++ (bE ++ X)))))) ++ (bV ++ (bS ++ (bL ++ (bR ++ (bM ++ bY)))))) := by
  haveI : DecidableEq α := fun a b => Classical.propDecidable (a = b)
  exact List.perm_iff_count.mpr (fun x => by simp only [List.count_append]; omega)
theorem lwp_VSLRMHY {α : Type} (bV bS bL bR bM bH bT bU bJ bN bE bY X : List α) : (bV ++ (bS ++ (bL ++ (bR ++ (bM ++ (bH ++ (bT ++ (bU ++ (bJ ++ (bN ++ (bE ++ (bY ++ X)))))))))))).Perm ((bT ++ (bU ++ (bJ ++ (bN ++ (bE ++ X))))) ++ (bV ++ (bS ++ (bL ++ (bR ++ (bM ++ (bH ++ bY))))))) := by
  haveI : DecidableEq α := fun a b => Classical.propDecidable (a = b)
  exact List.perm_iff_count.mpr (fun x => by simp only [List.count_append]; omega)
theorem lwp_VSLRMTUE {α : Type} (bV bS bL bR bM bH bT bU bJ bN bE bY X : List α) : (bV ++ (bS ++ (bL ++ (bR ++ (bM ++ (bH ++ (bT ++ (bU ++ (bJ ++ (bN ++ (bE ++ (bY ++ X)))))))))))).Perm ((bH ++ (bJ ++ (bN ++ (bY ++ X)))) ++ (bV ++ (bS ++ (bL ++ (bR ++ (bM ++ (bT ++ (bU ++ bE)))))))) := by
  haveI : DecidableEq α := fun a b => Classical.propDecidable (a = b)
  exact List.perm_iff_count.mpr (fun x => by simp only [List.count_append]; omega)
theorem lwp_VT {α : Type} (bV bS bL bR bM bH bT bU bJ bN bE bY X : List α) : (bV ++ (bS ++ (bL ++ (bR ++ (bM ++ (bH ++ (bT ++ (bU ++ (bJ ++ (bN ++ (bE ++ (bY ++ X)))))))))))).Perm ((bS ++ (bL ++ (bR ++ (bM ++ (bH ++ (bU ++ (bJ ++ (bN ++ (bE ++ (bY ++ X)))))))))) ++ (bV ++ bT)) := by
  haveI : DecidableEq α := fun a b => Classical.propDecidable (a = b)
  exact List.perm_iff_count.mpr (fun x => by simp only [List.count_append]; omega)
theorem lwp_VY {α : Type} (bV bS bL bR bM bH bT bU bJ bN bE bY X : List α) : (bV ++ (bS ++ (bL ++ (bR ++ (bM ++ (bH ++ (bT ++ (bU ++ (bJ ++ (bN ++ (bE ++ (bY ++ X)))))))))))).Perm ((bS ++ (bL ++ (bR ++ (bM ++ (bH ++ (bT ++ (bU ++ (bJ ++ (bN ++ (bE ++ X)))))))))) ++ (bV ++ bY)) := by
  haveI : DecidableEq α := fun a b => Classical.propDecidable (a = b)
  exact List.perm_iff_count.mpr (fun x => by simp only [List.count_append]; omega)
theorem lwp_VSLRMH {α : Type} (bV bS bL bR bM bH bT bU bJ bN bE bY X : List α) : (bV ++ (bS ++ (bL ++ (bR ++ (bM ++ (bH ++ (bT ++ (bU ++ (bJ ++ (bN ++ (bE ++ (bY ++ X)))))))))))).Perm ((bT ++ (bU ++ (bJ ++ (bN ++ (bE ++ (bY ++ X)))))) ++ (bV ++ (bS ++ (bL ++ (bR ++ (bM ++ bH)))))) := by
  haveI : DecidableEq α := fun a b => Classical.propDecidable (a = b)
  exact List.perm_iff_count.mpr (fun x => by simp only [List.count_append]; omega)
theorem lwp_VSLRMHTJN {α : Type} (bV bS bL bR bM bH bT bU bJ bN bE bY X : List α) : (bV ++ (bS ++ (bL ++ (bR ++ (bM ++ (bH ++ (bT ++ (bU ++ (bJ ++ (bN ++ (bE ++ (bY ++ X)))))))))))).Perm ((bU ++ (bE ++ (bY ++ X))) ++ (bV ++ (bS ++ (bL ++ (bR ++ (bM ++ (bH ++ (bT ++ (bJ ++ bN))))))))) := by
  haveI : DecidableEq α := fun a b => Classical.propDecidable (a = b)
  exact List.perm_iff_count.mpr (fun x => by simp only [List.count_append]; omega)
def rotH (a : aHI) : aHI := (a.1, a.2.1, a.2.2.2.1, a.2.2.2.2.1, a.2.2.2.2.2.1, a.2.2.2.2.2.2, a.2.2.1)
theorem hRo_rotH (a : aHI) : hRo a 1 = hRo (rotH a) 0 := by
  funext k
  match k with
  | 0 => rfl
  | 1 => rfl
  | 2 => rfl
  | 3 => rfl
  | 4 => rfl
  | k + 5 => rfl
theorem rotPerm (cI cS : ClassId) (a : aHI) (n : Int32) (t0 t1 t2 t3 t4 : vST) : (wHI cI cS a n 1 t0 t1 t2 t3 t4).Perm (wHI cI cS (rotH a) n 0 t1 t2 t3 t4 t0) := by
  unfold wHI wHF
  rw [hRo_rotH a]
  have key : ∀ (h b0 b1 b2 b3 b4 : va_W), (h ++ (b0 ++ (b1 ++ (b2 ++ (b3 ++ b4))))).Perm (h ++ (b1 ++ (b2 ++ (b3 ++ (b4 ++ b0))))) := by
    intro h b0 b1 b2 b3 b4
    haveI : DecidableEq (Nat × va_E) := fun a b => Classical.propDecidable (a = b)
    exact List.perm_iff_count.mpr (fun x => by simp only [List.count_append]; omega)
  exact key _ _ _ _ _ _
theorem hPerm {α : Type} {bH bH2 : List α} (h : bH.Perm bH2) (bV bS bL bR bM Y : List α) : (bV ++ (bS ++ (bL ++ (bR ++ (bM ++ (bH ++ Y)))))).Perm (bV ++ (bS ++ (bL ++ (bR ++ (bM ++ (bH2 ++ Y)))))) := List.Perm.append_left _ (List.Perm.append_left _ (List.Perm.append_left _ (List.Perm.append_left _ (List.Perm.append_left _ (h.append_right _)))))
theorem nH_ca {k : Int32} {r : Nat} {t0 t1 t2 t3 t4 : vST} {h : vHs} (e : nH k r t0 t1 t2 t3 t4 = some h) : (r = 0 ∧ h = (k, t0, t1, t2, t3, t4)) ∨ (r = 1 ∧ h = (k, t1, t2, t3, t4, t0)) := by
  unfold nH at e
  by_cases z : r = 0
  · rw [if_pos z] at e
    exact Or.inl ⟨z, (Option.some.inj e).symm⟩
  · rw [if_neg z] at e
    by_cases z1 : r = 1
    · rw [if_pos z1] at e
      exact Or.inr ⟨z1, (Option.some.inj e).symm⟩
    · rw [if_neg z1] at e
      cases e
theorem mxPerm (cI : ClassId) (aM : Nat × Nat × Nat) (v0 v1 : Nat → Int32) (v2 : Int32) : (wMX cI aM v0 v1 v2).Perm (wMP cI (aM.1, aM.2.2, aM.2.1) v1 v0 v2) := List.Perm.cons _ (List.Perm.swap _ _ _)
theorem exchPermG0 {α : Type} (bT bU bJ bN bE bY X bV bS bL bR bM bH bM2 bH2 : List α) (hM : bM.Perm bM2) (hH : bH.Perm bH2) : ((bT ++ (bU ++ (bJ ++ (bN ++ (bE ++ (bY ++ X)))))) ++ (bV ++ (bS ++ (bL ++ (bR ++ (bM ++ bH)))))).Perm (bV ++ (bS ++ (bR ++ (bL ++ (bM2 ++ (bH2 ++ (bT ++ (bU ++ (bJ ++ (bN ++ (bE ++ (bY ++ X)))))))))))) := by
  haveI : DecidableEq α := fun a b => Classical.propDecidable (a = b)
  exact List.perm_iff_count.mpr (fun x => by have h1 := List.perm_iff_count.mp hM x; have h2 := List.perm_iff_count.mp hH x; simp only [List.count_append]; omega)
theorem exchPermG1 {α : Type} (bT bU bJ bN bE bY X bV bS bL bR bM bH bM2 bH2 : List α) (hM : bM.Perm bM2) (hH : bH.Perm bH2) : ((bT ++ (bU ++ (bJ ++ (bN ++ (bE ++ (bY ++ X)))))) ++ (bV ++ (bS ++ (bL ++ (bR ++ (bM ++ bH)))))).Perm (bV ++ (bS ++ (bR ++ (bL ++ (bM2 ++ (bH2 ++ (bT ++ (bU ++ (bJ ++ (bN ++ (bE ++ (bY ++ X)))))))))))) := by
  haveI : DecidableEq α := fun a b => Classical.propDecidable (a = b)
  exact List.perm_iff_count.mpr (fun x => by have h1 := List.perm_iff_count.mp hM x; have h2 := List.perm_iff_count.mp hH x; simp only [List.count_append]; omega)
