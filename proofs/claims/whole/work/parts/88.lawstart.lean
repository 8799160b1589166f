theorem lw_S0 : rS ((z0, z0, z0, 0), (z0, z0, z0, 0), (z0, z0, 0)) (fun _ => 0) := by
  refine ⟨fun _ => 0, fun _ => 0, fun _ => 0, 0, fun _ => 0, fun _ => 0, fun _ => 0, 0, fun _ => 0, fun _ => 0, 0, rfl, ⟨by omega, fun i a b => by omega⟩, ⟨by omega, fun i a b => by omega⟩, ⟨by omega, fun i a b => by omega, Sm_0 _, Sm_0 _⟩, ⟨rfl, (at0_out (by omega)).symm, fun i a b => by omega⟩, ⟨rfl, (at0_out (by omega)).symm, fun i a b => by omega⟩, ⟨rfl, fun i a b => by omega⟩⟩
theorem lw_H0 {s0 s1 s2 s3 s4 : vST} {V : Int → Int} : rH 0 s0 s1 s2 s3 s4 V := ⟨by omega, fun h => by omega, fun h => by omega, fun h => by omega, fun h => by omega, fun h => by omega⟩
theorem lw_T0 : rT z0 0 0 z0 := ⟨fun _ => 0, fun _ => 0, 0, rfl, rfl, rfl, rfl, by omega, fun i a b => by omega⟩
theorem lw_W0 : rW 40 40 (fun _ => 0) := ⟨rfl, rfl, Or.inl rfl, Or.inl rfl⟩
theorem lw_Z0 : rZ 40 2 40 2 40 2 := ⟨rfl, rfl, rfl, rfl, by omega, by omega⟩
set_option maxHeartbeats 8000000 in
set_option maxRecDepth 100000 in
/-- the law, from its entry -/
theorem whole_start {p : Program} {e : Env} {s : State} {m : MethodId} {below : List Frame} {meth : Method} {c : Code} (l : Launch) (hflags : l.flags = flags0) {b L : Nat} {xs : Nat → Int32} (hL : L ≤ 2560) (C0 : lw_At p s m meth c b L xs) : W p l e room_1 s m #[Value.ref b] below meth c s.heap [] 0 0 (lw_Z below #[Value.ref b] s) (entryFrame m ([Value.ref b] : List Value).toArray 4) := by
  obtain ⟨hx, hb, hr, hml, hown, hts, hX, hbl, hlocks, hgv⟩ := id C0
  have hb : c.code = code := hb
  have hown1 : s.vm.findClass RL = some m.cls := hown
  have hts1 : ∀ w ∈ wsL_law, w.before #[Value.ref b] s = true := fun w hw => hts w (lw_sub w hw)
  have hA : ∀ q : Nat, s.heap.size ≤ q → (fun q : Nat => s.heap.size ≤ q) q := fun _ h => h
  obtain ⟨c0, i0, k0⟩ := u_known (C := RX0) (T := TX0) (N := 4) (n := 4) hts1 lw_iX0 (hts1 (.instantiable RX0 4) (by decide +kernel))
  obtain ⟨c1, i1, k1⟩ := u_known (C := RX1) (T := TX1) (N := 3) (n := 3) hts1 lw_iX1 (hts1 (.instantiable RX1 3) (by decide +kernel))
  obtain ⟨c2, i2, k2⟩ := u_known (C := RX2) (T := TX2) (N := 2) (n := 2) hts1 lw_iX2 (hts1 (.instantiable RX2 2) (by decide +kernel))
  obtain ⟨c3, i3, k3⟩ := u_known (C := RX3) (T := TX3) (N := 11) (n := 11) hts1 lw_iX3 (hts1 (.instantiable RX3 11) (by decide +kernel))
  obtain ⟨c4, i4, k4⟩ := u_known (C := RX4) (T := TX4) (N := 3) (n := 3) hts1 lw_iX4 (hts1 (.instantiable RX4 3) (by decide +kernel))
  obtain ⟨c5, i5, k5⟩ := u_known (C := RX5) (T := TX5) (N := 7) (n := 7) hts1 lw_iX5 (hts1 (.instantiable RX5 7) (by decide +kernel))
  obtain ⟨c6, i6, k6⟩ := u_known (C := RX6) (T := TX6) (N := 2) (n := 2) hts1 lw_iX6 (hts1 (.instantiable RX6 2) (by decide +kernel))
  obtain ⟨c7, i7, k7⟩ := u_known (C := RX7) (T := TX7) (N := 3) (n := 3) hts1 lw_iX7 (hts1 (.instantiable RX7 3) (by decide +kernel))
  obtain ⟨c8, i8, k8⟩ := u_known (C := RX8) (T := TX8) (N := 6) (n := 6) hts1 lw_iX8 (hts1 (.instantiable RX8 6) (by decide +kernel))
  obtain ⟨c9, i9, k9⟩ := u_known (C := RX9) (T := TX9) (N := 7) (n := 7) hts1 lw_iX9 (hts1 (.instantiable RX9 7) (by decide +kernel))
  obtain ⟨c10, i10, k10⟩ := u_known (C := RX10) (T := TX10) (N := 23) (n := 23) hts1 lw_iX10 (hts1 (.instantiable RX10 23) (by decide +kernel))
  obtain ⟨dC, dI, hKc⟩ : ∃ (dC : Nat → ClassId) (dI : Nat → Nat → Nat), ∀ (k : Nat) (q : vw_C), vwCl[k]? = some q → u_Kn s q.1 q.2.1 q.2.2 (dC k) (dI k) := by
    refine ⟨fun k => if k = 0 then c0 else if k = 1 then c1 else if k = 2 then c2 else if k = 3 then c3 else if k = 4 then c4 else if k = 5 then c5 else if k = 6 then c6 else if k = 7 then c7 else if k = 8 then c8 else if k = 9 then c9 else c10, fun k => if k = 0 then i0 else if k = 1 then i1 else if k = 2 then i2 else if k = 3 then i3 else if k = 4 then i4 else if k = 5 then i5 else if k = 6 then i6 else if k = 7 then i7 else if k = 8 then i8 else if k = 9 then i9 else i10, ?_⟩
    intro k q hq
    match k, hq with
    | 0, hq => cases hq; exact k0
    | 1, hq => cases hq; exact k1
    | 2, hq => cases hq; exact k2
    | 3, hq => cases hq; exact k3
    | 4, hq => cases hq; exact k4
    | 5, hq => cases hq; exact k5
    | 6, hq => cases hq; exact k6
    | 7, hq => cases hq; exact k7
    | 8, hq => cases hq; exact k8
    | 9, hq => cases hq; exact k9
    | 10, hq => cases hq; exact k10
    | k + 11, hq => simp [vwCl] at hq
  obtain ⟨cI, kI, coI, a1, a2, a3⟩ := Cond.arrayClass_spec (hts1 (.arrayClass .int) (by decide +kernel))
  obtain ⟨cC, kC2, coC, b1, b2, b3⟩ := Cond.arrayClass_spec (hts1 (.arrayClass .char) (by decide +kernel))
  have hAO := hts (.arrayOver (.object RX7)) (by decide +kernel)
  obtain ⟨coS, cS, kS, d1, d2, d3, d4, d5⟩ := Cond.arrayOver_spec hAO
  have hK : va_K (dC, dI) vwCl (kTy cI cC cS) s := by
    refine ⟨hKc, fun k q hq => ?_⟩
    match k, hq with
    | 0, hq => cases hq; exact ⟨fun N z => ⟨fun k h => (by cases h), kI, a2, coI, a3⟩, a1⟩
    | 1, hq => cases hq; exact ⟨fun N z => ⟨fun k h => (by cases h), kC2, b2, coC, b3⟩, b1⟩
    | 2, hq => cases hq; exact ⟨fun N z => ⟨fun k h => (by cases h), kS, d3, coS, d4⟩, kS, coS, d3, d4, d1, d5⟩
    | k + 3, hq => simp [kTy] at hq
  have hN : kN s := ⟨fun q hq => va_Nw.of rfl (hts _ (lw_nf q hq)), fun q hq => va_Nw.of rfl (hts _ (lw_nm q hq)), va_AO.of hAO⟩
  have hS : va_S (fun q : Nat => s.heap.size ≤ q) s.heap s.heap [] := va_S.rf
  have hP : va_P (dC, dI) vwCl [] s.heap := fun k q h => by simp at h
  have hD : va_D (fun q : Nat => s.heap.size ≤ q) [] := ⟨fun i j p q h => by simp at h, fun k q h => by simp at h⟩
  have hl := lv_entry ([.ref b]) (n := 4) (Nat.le_of_ble_eq_true rfl)
  rw [lg_entry_eq]
  generalize (lg_sl ([.ref b]) ++ List.replicate (4 - (lg_sl ([.ref b])).length) Slot.unset).toArray = ls at hl ⊢
  have hl : lv_has ls 4 [(0, .ref b)] := hl
  refine va_new (ci := 9) (fs := [.null, .null, .null, .null, .null, .null, .null]) (C := RX9) (T := TX9) (N := 7) hx hb hts1 lw_iX9 tyX9 tyX9_ok hown1 (hts1 (.classLink RL 7 RX9) (by decide +kernel)) (hts1 (.instantiable RX9 7) (by decide +kernel)) (hts1 (.initialized RX9) (by decide +kernel)) hK hP hD hS hA rfl (fun j hj => match j, hj with | 0, _ => rfl | 1, _ => rfl | 2, _ => rfl | 3, _ => rfl | 4, _ => rfl | 5, _ => rfl | 6, _ => rfl) (Nat.le_of_ble_eq_true rfl) (Nat.le_of_ble_eq_true rfl) dL_law_0 (fun q0 H hP hD hS => ?_)
  have hP : va_P (dC, dI) vwCl ([] ++ [(q0, .inr (9, [.null, .null, .null, .null, .null, .null, .null]))]) H := hP
  have hD : va_D (fun q : Nat => s.heap.size ≤ q) ([] ++ [(q0, .inr (9, [.null, .null, .null, .null, .null, .null, .null]))]) := hD
  refine W.widen (k := 1) (n := 7) (Nat.le_of_ble_eq_true rfl) (Nat.le_of_ble_eq_true rfl) ?_
  refine lv_dup hx hb dL_law_3 rfl ?_
  refine kcn (wsp := []) (va_runI (As := []) (rest := [.ref q0]) ⟨hx, hb, hml, hown1, hts1⟩ (kX9_init l (dC, dI) cI cC cS q0 H.size) (cwI 0 hts1 gL_law_X9_init rfl rfl rfl (hts1 (.initialized RX9) (by decide +kernel)) (hts1 (.methodLink RL 9 yX9_init) (by decide +kernel)) (hts1 (.instanceMethod yX9_init) (by decide +kernel)) rfl (by decide +kernel) ⟨Nat.le_of_ble_eq_true rfl, Nat.le_of_ble_eq_true rfl⟩) (kpre hK hN hP hD [0] rfl (by decide +kernel)) rfl rfl hl.1 rfl (lv_room (Nat.le_of_ble_eq_true rfl)) dL_law_4 ⟨Nat.le_of_ble_eq_true rfl, Nat.le_of_ble_eq_true rfl⟩) hP hD hS hA (fun u H locs hP hD hS => ?_)
  have hP : va_P (dC, dI) vwCl (wVC q0 u.1.1 u.2.1.1 u.2.2.1.1 u.2.2.2.1 u.2.2.2.2.1.1 u.2.2.2.2.2.1 u.2.2.2.2.2.2.1 ++ (wST cI u.1 zST ++ (wHI cI cS u.2.1 0 0 zST zST zST zST zST ++ (wTX cC u.2.2.1 z0 0 0 0 0 0 ++ (wRR u.2.2.2.1 0 0 ++ ((wMR u.2.2.2.2.1.1 u.2.2.2.2.1.2.1 0 0 ++ wMP cI u.2.2.2.2.1.2 z0 z0 0) ++ (wRE u.2.2.2.2.2.1 0 0 0 0 0 0 0 ++ wLY cI u.2.2.2.2.2.2 40 40 40 2 z0 z0 z0 z0 0 0 0))))))) H := hP
  have hD : va_D (fun q : Nat => s.heap.size ≤ q) (wVC q0 u.1.1 u.2.1.1 u.2.2.1.1 u.2.2.2.1 u.2.2.2.2.1.1 u.2.2.2.2.2.1 u.2.2.2.2.2.2.1 ++ (wST cI u.1 zST ++ (wHI cI cS u.2.1 0 0 zST zST zST zST zST ++ (wTX cC u.2.2.1 z0 0 0 0 0 0 ++ (wRR u.2.2.2.1 0 0 ++ ((wMR u.2.2.2.2.1.1 u.2.2.2.2.1.2.1 0 0 ++ wMP cI u.2.2.2.2.1.2 z0 z0 0) ++ (wRE u.2.2.2.2.2.1 0 0 0 0 0 0 0 ++ wLY cI u.2.2.2.2.2.2 40 40 40 2 z0 z0 z0 z0 0 0 0))))))) := hD
  refine W.widen (k := 88) (n := 4530) (Nat.le_of_ble_eq_true rfl) (Nat.le_of_ble_eq_true rfl) ?_
  refine lv_astore_n (lv' := [(1, .ref q0), (0, .ref b)]) hx hb dL_law_7 rfl hl (by decide) rfl (fun ls hl => ?_)
  refine va_new (ci := 10) (fs := [.null, .null, .int 0, .int 0, .null, .int 0, .int 0, .int 0, .int 0, .int 0, .int 0, .null, .null, .int 0, .int 0, .null, .int 0, .int 0, .int 0, .null, .null, .null, .null]) (C := RX10) (T := TX10) (N := 23) hx hb hts1 lw_iX10 tyX10 tyX10_ok hown1 (hts1 (.classLink RL 10 RX10) (by decide +kernel)) (hts1 (.instantiable RX10 23) (by decide +kernel)) (hts1 (.initialized RX10) (by decide +kernel)) hK hP hD hS hA rfl (fun j hj => match j, hj with | 0, _ => rfl | 1, _ => rfl | 2, _ => rfl | 3, _ => rfl | 4, _ => rfl | 5, _ => rfl | 6, _ => rfl | 7, _ => rfl | 8, _ => rfl | 9, _ => rfl | 10, _ => rfl | 11, _ => rfl | 12, _ => rfl | 13, _ => rfl | 14, _ => rfl | 15, _ => rfl | 16, _ => rfl | 17, _ => rfl | 18, _ => rfl | 19, _ => rfl | 20, _ => rfl | 21, _ => rfl | 22, _ => rfl | k + 23, h => absurd h (by omega)) (Nat.le_of_ble_eq_true rfl) (Nat.le_of_ble_eq_true rfl) dL_law_8 (fun q1 H hP hD hS => ?_)
  refine W.widen (k := 89) (n := 4553) (Nat.le_of_ble_eq_true rfl) (Nat.le_of_ble_eq_true rfl) ?_
  refine lv_dup hx hb dL_law_11 rfl ?_
  refine kcn (wsp := (wVC q0 u.1.1 u.2.1.1 u.2.2.1.1 u.2.2.2.1 u.2.2.2.2.1.1 u.2.2.2.2.2.1 u.2.2.2.2.2.2.1 ++ (wST cI u.1 zST ++ (wHI cI cS u.2.1 0 0 zST zST zST zST zST ++ (wTX cC u.2.2.1 z0 0 0 0 0 0 ++ (wRR u.2.2.2.1 0 0 ++ ((wMR u.2.2.2.2.1.1 u.2.2.2.2.1.2.1 0 0 ++ wMP cI u.2.2.2.2.1.2 z0 z0 0) ++ (wRE u.2.2.2.2.2.1 0 0 0 0 0 0 0 ++ wLY cI u.2.2.2.2.2.2 40 40 40 2 z0 z0 z0 z0 0 0 0)))))))) (va_runI (As := []) (rest := [.ref q1]) ⟨hx, hb, hml, hown1, hts1⟩ (kX10_init l (dC, dI) cI cC cS q1 H.size) (cwI 0 hts1 gL_law_X10_init rfl rfl rfl (hts1 (.initialized RX10) (by decide +kernel)) (hts1 (.methodLink RL 12 yX10_init) (by decide +kernel)) (hts1 (.instanceMethod yX10_init) (by decide +kernel)) rfl (by decide +kernel) ⟨Nat.le_of_ble_eq_true rfl, Nat.le_of_ble_eq_true rfl⟩) (kpre hK hN hP hD [88] rfl (by decide +kernel)) rfl rfl hl.1 rfl (lv_room (Nat.le_of_ble_eq_true rfl)) dL_law_12 ⟨Nat.le_of_ble_eq_true rfl, Nat.le_of_ble_eq_true rfl⟩) hP hD hS hA (fun u2 H locs hP hD hS => ?_)
  refine W.widen (k := 99) (n := 8985) (Nat.le_of_ble_eq_true rfl) (Nat.le_of_ble_eq_true rfl) ?_
  refine lv_astore_n (lv' := [(2, .ref q1), (1, .ref q0), (0, .ref b)]) hx hb dL_law_15 rfl hl (by decide) rfl (fun ls hl => ?_)
  refine lv_iconst (v := 0) hx hb dL_law_16 (by decide) ?_
  refine lv_istore_n (lv' := [(3, .int 0), (2, .ref q1), (1, .ref q0), (0, .ref b)]) hx hb dL_law_17 rfl hl (by decide) rfl (fun ls hl => ?_)
  have hP : va_P (dC, dI) vwCl (wAll cI cC cS q0 u.1.1 u.1.2.1 u.1.2.2.1 u.1.2.2.2 u.2.1 (hRo u.2.1 0) u.2.2.1 u.2.2.2.1 u.2.2.2.2.1.1 u.2.2.2.2.1.2 u.2.2.2.2.2.1 u.2.2.2.2.2.2 (q1, u2) z0 z0 z0 0 z0 z0 z0 0 z0 z0 0 (I 0) zST zST zST zST zST z0 0 0 0 0 0 0 0 0 0 z0 z0 0 0 0 0 0 0 0 0 40 40 40 2 z0 z0 z0 z0 0 0 0 (cz (fun _ => 0)) (cz (fun _ => 0)) (I 0) 0 z0 0 0 0 0 0 0 z0 z0 0 0 (cz (fun _ => 0)) 40 2 0 z0 z0 z0 z0) H := hP
  have hD : va_D (fun q : Nat => s.heap.size ≤ q) (wAll cI cC cS q0 u.1.1 u.1.2.1 u.1.2.2.1 u.1.2.2.2 u.2.1 (hRo u.2.1 0) u.2.2.1 u.2.2.2.1 u.2.2.2.2.1.1 u.2.2.2.2.1.2 u.2.2.2.2.2.1 u.2.2.2.2.2.2 (q1, u2) z0 z0 z0 0 z0 z0 z0 0 z0 z0 0 (I 0) zST zST zST zST zST z0 0 0 0 0 0 0 0 0 0 z0 z0 0 0 0 0 0 0 0 0 40 40 40 2 z0 z0 z0 z0 0 0 0 (cz (fun _ => 0)) (cz (fun _ => 0)) (I 0) 0 z0 0 0 0 0 0 0 z0 z0 0 0 (cz (fun _ => 0)) 40 2 0 z0 z0 z0 z0) := hD
  have hI : lwI (dC, dI) cI cC cS s q0 (q1, u2) H locs := fun C kf => kf _ _ _ _ _ _ _ _ _ _ _ _ _ _ _ _ _ _ _ _ _ _ 0 _ _ _ _ _ _ _ _ _ _ _ _ _ _ _ _ _ _ _ _ _ _ _ _ _ _ _ _ _ _ _ _ _ _ _ _ (fun _ => 0) (fun _ => 0) _ _ _ _ _ _ _ _ _ _ _ _ (fun _ => 0) _ _ _ _ _ _ _ 40 2 hP hD hS lw_S0 lw_H0 lw_T0 lw_W0 lw_Z0
  exact lw_loop hL C0 hK hN hts1 (L + 6) 0 (by omega) (by omega) H locs hI ls (lv_sub hl [3, 2, 1, 0] rfl)
