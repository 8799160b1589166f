-- the law's own walk (printed by wip/p24/gen/g4.py)
theorem lw_ob {u n k N : Nat} (h : u + n ≤ 30000) (h2 : (30000 + k).ble N = true) : u + k ≤ N := by
  have := Nat.le_of_ble_eq_true h2
  omega
set_option maxHeartbeats 16000000 in
set_option maxRecDepth 100000 in
theorem lw_body {p : Program} {l : Launch} {e : Env} {s : State} {m : MethodId} {below : List Frame} {meth : Method} {c : Code} {D : va_G} {cI cC cS : ClassId} {lo aV b L : Nat} {xs : Nat → Int32} (hlo : s.heap.size ≤ lo) (C0 : lw_At p s m meth c b L xs) (hL : L ≤ 260) (hts : ∀ w ∈ wsL_law, w.before #[Value.ref b] s = true) (hK : va_K D vwCl (kTy cI cC cS) s) (hN : kN s) (hz : lo ≤ s.heap.size) (vO0 : Sg) (h : pL_law xs L vO0 = some 1) (u v : Nat) (hu : u ≤ 500 ∧ v ≤ 10000) (H : Heap) (locs : List Loc) (ls : Array Slot) (hP : aW D cI cC cS lo aV vO0 [] H) (hS : va_S (fun q => lo ≤ q) s.heap H locs) (hl : lv_has ls 17 [(1, .ref aV), (0, .ref b)]) : W p l e room_1 s m #[Value.ref b] below meth c H locs u v (lw_Z below #[Value.ref b] s) (F0 m 8 ls []) := by
  obtain ⟨hx, hb, hr, hml, hown, -, hX, hlt, hlocks, -⟩ := C0
  have hb : c.code = cL_law := hb
  have hown : s.vm.findClass RL = some m.cls := hown
  have hlt : b < lo := Nat.lt_of_lt_of_le hlt hlo
  unfold pL_law at h
  refine lv_iconst (v := (2 : Int32)) hx hb dL_law_8 (by decide) ?_
  refine aW_new (X := []) hx hb (hts (.arrayClass .int) (by decide +kernel)) hK hP hS hz (n := 2) (by decide) (by decide) (by decide) (lw_ob (n := 2) (k := 1) (N := room_1.cells) (by omega) rfl) (lw_ob (n := 2) (k := 2) (N := room_1.slots) (by omega) rfl) dL_law_9 (fun bW H hP hS => ?_)
  have hP : (aW D cI cC cS lo aV vO0 (wAR cI bW 2 z0)) H := hP
  have L42 : ∀ (nL42 : Nat) (c0_0 : Sg) (c1_0 : (Nat → Int32)) (y3 : Int32) (y4 : Int32) (y5 : Int32) (u v : Nat) (hu : u + nL42 ≤ 1000 ∧ v + 4 * nL42 ≤ 20000) (H : Heap) (locs : List Loc) (ls : Array Slot), pL_law_L42 xs L nL42 c0_0 c1_0 y3 y4 y5 = some 1 → (aW D cI cC cS lo aV c0_0 (wAR cI bW 2 c1_0)) H → va_S (fun q => lo ≤ q) s.heap H locs → lv_has ls 17 [(0, .ref b), (1, .ref aV), (2, .ref bW), (3, .int y3), (4, .int y4), (5, .int y5)] → W p l e room_1 s m #[Value.ref b] below meth c H locs u v (lw_Z below #[Value.ref b] s) (F0 m 42 ls []) := by
    clear h hP hS hl hu
    intro nL42
    induction nL42 with
    | zero => intro c0_0 c1_0 y3 y4 y5 u v hu H locs ls h; have h : (none : Option (Int32)) = some 1 := h; cases h
    | succ nL42 ihL42 =>
      have j800 : ∀ (c0_0 : Sg) (c1_0 : (Nat → Int32)) (y3 : Int32) (y4 : Int32) (y5 : Int32) (u v : Nat) (hu : u + (nL42 + 1) ≤ 1000 ∧ v + 4 * (nL42 + 1) ≤ 20000) (H : Heap) (locs : List Loc) (ls : Array Slot), pL_law_j800 xs L (pL_law_L42 xs L nL42) c0_0 c1_0 y3 y4 y5 = some 1 → (aW D cI cC cS lo aV c0_0 (wAR cI bW 2 c1_0)) H → va_S (fun q => lo ≤ q) s.heap H locs → lv_has ls 17 [(0, .ref b), (1, .ref aV), (2, .ref bW), (3, .int y3), (4, .int y4), (5, .int y5)] → W p l e room_1 s m #[Value.ref b] below meth c H locs u v (lw_Z below #[Value.ref b] s) (F0 m 800 ls []) := by
        skip
        intro c0_0 c1_0 y3 y4 y5 u v hu H locs ls h hP hS hl
        unfold pL_law_j800 at h
        refine lv_aload_n hx hb dL_law_800 rfl (lv_at hl 1 rfl) ?_
        refine lv_aload_n hx hb dL_law_801 rfl (lv_at hl 2 rfl) ?_
        obtain ⟨q22, h21, h⟩ := Option.bind_eq_some_iff.mp h
        refine kciA (va_runS (As := [.ref aV, .ref bW]) (rest := []) ⟨hx, hb, hml, hown, hts⟩ (kL_books l D cI cC cS lo aV c0_0 bW c1_0 h21) (cwS 2 hts gL_law_L_books rfl rfl rfl (by decide +kernel) ⟨Nat.le_of_ble_eq_true rfl, Nat.le_of_ble_eq_true rfl⟩) (kpreA hP hK hN (Nat.le_trans hz hS.1)) rfl rfl hl.1 rfl (lv_room (Nat.le_of_ble_eq_true rfl)) dL_law_802 ⟨lw_ob (n := 1) (by omega) rfl, lw_ob (n := 4) (by omega) rfl⟩) hS (fun H locs hP hS => ?_)
        refine lv_if_eq (tgt := 825) hx hb dL_law_805 (by decide) (fun g => ?_) (fun g => ?_)
        · rw [if_pos g] at h
          refine lv_iconst (v := (0 : Int32)) hx hb dL_law_825 (by decide) ?_
          exact absurd (Option.some.inj h) (by decide)
        · rw [if_neg g] at h
          refine lv_aload_n hx hb dL_law_808 rfl (lv_at hl 1 rfl) ?_
          refine lv_iload hx hb dL_law_809 (lv_at hl 4 rfl) ?_
          obtain ⟨q24, h23, h⟩ := Option.bind_eq_some_iff.mp h
          refine kciA (va_runS (As := [.ref aV, .int y4]) (rest := []) ⟨hx, hb, hml, hown, hts⟩ (kL_groups l D cI cC cS lo aV c0_0 (wAR cI bW 2 c1_0) y4 h23) (cwS 2 hts gL_law_L_groups rfl rfl rfl (by decide +kernel) ⟨Nat.le_of_ble_eq_true rfl, Nat.le_of_ble_eq_true rfl⟩) (kpreA hP hK hN (Nat.le_trans hz hS.1)) rfl rfl hl.1 rfl (lv_room (Nat.le_of_ble_eq_true rfl)) dL_law_811 ⟨lw_ob (n := 1) (by omega) rfl, lw_ob (n := 4) (by omega) rfl⟩) hS (fun H locs hP hS => ?_)
          refine lv_if_eq (tgt := 825) hx hb dL_law_814 (by decide) (fun g => ?_) (fun g => ?_)
          · rw [if_pos g] at h
            refine lv_iconst (v := (0 : Int32)) hx hb dL_law_825 (by decide) ?_
            exact absurd (Option.some.inj h) (by decide)
          · rw [if_neg g] at h
            refine lv_aload_n hx hb dL_law_817 rfl (lv_at hl 1 rfl) ?_
            refine lv_iload_n hx hb dL_law_818 rfl (lv_at hl 3 rfl) ?_
            obtain ⟨q26, h25, h⟩ := Option.bind_eq_some_iff.mp h
            refine kciA (va_runS (As := [.ref aV, .int y3]) (rest := []) ⟨hx, hb, hml, hown, hts⟩ (kL_pages l D cI cC cS lo aV c0_0 (wAR cI bW 2 c1_0) y3 h25) (cwS 2 hts gL_law_L_pages rfl rfl rfl (by decide +kernel) ⟨Nat.le_of_ble_eq_true rfl, Nat.le_of_ble_eq_true rfl⟩) (kpreA hP hK hN (Nat.le_trans hz hS.1)) rfl rfl hl.1 rfl (lv_room (Nat.le_of_ble_eq_true rfl)) dL_law_819 ⟨lw_ob (n := 1) (by omega) rfl, lw_ob (n := 4) (by omega) rfl⟩) hS (fun H locs hP hS => ?_)
            refine lv_if_ne (tgt := 827) hx hb dL_law_822 (by decide) (fun g => ?_) (fun g => ?_)
            · rw [if_neg g] at h
              refine lv_iinc (v := (y5 + (1 : Int32))) (lv' := [(5, .int (y5 + (1 : Int32))), (0, .ref b), (1, .ref aV), (2, .ref bW), (3, .int y3), (4, .int y4)]) hx hb dL_law_827 hl (k := 5) rfl rfl (by decide) rfl (fun ls hl => ?_)
              refine lv_goto (tgt := 42) hx hb dL_law_830 (by decide) ?_
              exact ihL42 c0_0 c1_0 y3 y4 (y5 + (1 : Int32)) _ _ (by omega) _ _ _ h hP hS (lv_sub hl [1, 2, 3, 4, 5, 0] rfl)
            · rw [if_pos g] at h
              refine lv_iconst (v := (0 : Int32)) hx hb dL_law_825 (by decide) ?_
              exact absurd (Option.some.inj h) (by decide)
      have j764 : ∀ (c0_0 : Sg) (c1_0 : (Nat → Int32)) (y3 : Int32) (y4 : Int32) (y5 : Int32) (u v : Nat) (hu : u + (nL42 + 1) ≤ 1000 ∧ v + 4 * (nL42 + 1) ≤ 20000) (H : Heap) (locs : List Loc) (ls : Array Slot), pL_law_j764 xs L (pL_law_L42 xs L nL42) c0_0 c1_0 y3 y4 y5 = some 1 → (aW D cI cC cS lo aV c0_0 (wAR cI bW 2 c1_0)) H → va_S (fun q => lo ≤ q) s.heap H locs → lv_has ls 17 [(0, .ref b), (1, .ref aV), (2, .ref bW), (3, .int y3), (4, .int y4), (5, .int y5)] → W p l e room_1 s m #[Value.ref b] below meth c H locs u v (lw_Z below #[Value.ref b] s) (F0 m 764 ls []) := by
        skip
        intro c0_0 c1_0 y3 y4 y5 u v hu H locs ls h hP hS hl
        unfold pL_law_j764 at h
        refine lv_goto (tgt := 800) hx hb dL_law_764 (by decide) ?_
        exact j800 c0_0 c1_0 y3 y4 y5 _ _ (by omega) _ _ _ h hP hS (lv_sub hl [0, 1, 2, 3, 4, 5] rfl)
      have j694 : ∀ (c0_0 : Sg) (c1_0 : (Nat → Int32)) (y3 : Int32) (y4 : Int32) (y5 : Int32) (y7 : Int32) (t0 : Int32) (u v : Nat) (hu : u + (nL42 + 1) ≤ 1000 ∧ v + 4 * (nL42 + 1) ≤ 20000) (H : Heap) (locs : List Loc) (ls : Array Slot), pL_law_j694 xs L (pL_law_L42 xs L nL42) c0_0 c1_0 y3 y4 y5 y7 t0 = some 1 → (aW D cI cC cS lo aV c0_0 (wAR cI bW 2 c1_0)) H → va_S (fun q => lo ≤ q) s.heap H locs → lv_has ls 17 [(0, .ref b), (1, .ref aV), (2, .ref bW), (3, .int y3), (4, .int y4), (5, .int y5), (7, .int y7)] → W p l e room_1 s m #[Value.ref b] below meth c H locs u v (lw_Z below #[Value.ref b] s) (F0 m 694 ls [.int t0]) := by
        skip
        intro c0_0 c1_0 y3 y4 y5 y7 t0 u v hu H locs ls h hP hS hl
        unfold pL_law_j694 at h
        refine lv_istore (lv' := [(14, .int t0), (0, .ref b), (1, .ref aV), (2, .ref bW), (3, .int y3), (4, .int y4), (5, .int y5), (7, .int y7)]) hx hb dL_law_694 hl (by decide) rfl (fun ls hl => ?_)
        refine lv_aload_n hx hb dL_law_696 rfl (lv_at hl 2 rfl) ?_
        refine lv_iconst (v := (2 : Int32)) hx hb dL_law_697 (by decide) ?_
        obtain ⟨q36, h35, h⟩ := Option.bind_eq_some_iff.mp h
        refine kciA (va_runV (As := [.int (2 : Int32)]) (rest := []) ⟨hx, hb, hml, hown, hts⟩ (aX9_count l D cI cC cS lo aV c0_0 (wAR cI bW 2 c1_0) (2 : Int32) h35) (cwV 1 hts gL_law_X9_count rfl rfl rfl (by decide +kernel) ⟨Nat.le_of_ble_eq_true rfl, Nat.le_of_ble_eq_true rfl⟩) (kpreVA hP hK hN (Nat.le_trans hz hS.1)) rfl rfl hl.1 rfl (lv_room (Nat.le_of_ble_eq_true rfl)) dL_law_698 ⟨lw_ob (n := 1) (by omega) rfl, lw_ob (n := 4) (by omega) rfl⟩) hS (fun H locs hP hS => ?_)
        refine lv_aload_n hx hb dL_law_701 rfl (lv_at hl 2 rfl) ?_
        refine lv_iconst (v := (3 : Int32)) hx hb dL_law_702 (by decide) ?_
        obtain ⟨q38, h37, h⟩ := Option.bind_eq_some_iff.mp h
        refine kciA (va_runV (As := [.int (3 : Int32)]) (rest := [.int q36]) ⟨hx, hb, hml, hown, hts⟩ (aX9_count l D cI cC cS lo aV c0_0 (wAR cI bW 2 c1_0) (3 : Int32) h37) (cwV 1 hts gL_law_X9_count rfl rfl rfl (by decide +kernel) ⟨Nat.le_of_ble_eq_true rfl, Nat.le_of_ble_eq_true rfl⟩) (kpreVA hP hK hN (Nat.le_trans hz hS.1)) rfl rfl hl.1 rfl (lv_room (Nat.le_of_ble_eq_true rfl)) dL_law_703 ⟨lw_ob (n := 1) (by omega) rfl, lw_ob (n := 4) (by omega) rfl⟩) hS (fun H locs hP hS => ?_)
        refine lv_iadd hx hb dL_law_706 ?_
        refine lv_iconst (v := (2 : Int32)) hx hb dL_law_707 (by decide) ?_
        refine lv_iload hx hb dL_law_708 (lv_at hl 0 rfl) ?_
        refine lv_imul hx hb dL_law_710 ?_
        refine lv_isub hx hb dL_law_711 ?_
        refine lv_istore (lv' := [(15, .int ((q36 + q38) - ((2 : Int32) * t0))), (14, .int t0), (0, .ref b), (1, .ref aV), (2, .ref bW), (3, .int y3), (4, .int y4), (5, .int y5), (7, .int y7)]) hx hb dL_law_712 hl (by decide) rfl (fun ls hl => ?_)
        refine lv_iload hx hb dL_law_714 (lv_at hl 8 rfl) ?_
        refine lv_iconst (v := (1 : Int32)) hx hb dL_law_716 (by decide) ?_
        refine lv_iand hx hb dL_law_717 ?_
        refine lv_if_ne (tgt := 731) hx hb dL_law_718 (by decide) (fun g => ?_) (fun g => ?_)
        · rw [if_neg g] at h
          refine lv_aload_n hx hb dL_law_731 rfl (lv_at hl 3 rfl) ?_
          obtain ⟨q40, h39, h⟩ := Option.bind_eq_some_iff.mp h
          refine kciA (va_runV (As := []) (rest := []) ⟨hx, hb, hml, hown, hts⟩ (aX9_pairAll l D cI cC cS lo aV c0_0 (wAR cI bW 2 c1_0) h39) (cwV 0 hts gL_law_X9_pairAll rfl rfl rfl (by decide +kernel) ⟨Nat.le_of_ble_eq_true rfl, Nat.le_of_ble_eq_true rfl⟩) (kpreVA hP hK hN (Nat.le_trans hz hS.1)) rfl rfl hl.1 rfl (lv_room (Nat.le_of_ble_eq_true rfl)) dL_law_732 ⟨lw_ob (n := 1) (by omega) rfl, lw_ob (n := 4) (by omega) rfl⟩) hS (fun H locs hP hS => ?_)
          refine lv_iload hx hb dL_law_735 (lv_at hl 1 rfl) ?_
          refine lv_iload hx hb dL_law_737 (lv_at hl 0 rfl) ?_
          refine lv_iadd hx hb dL_law_739 ?_
          refine lv_icmp_ne (tgt := 762) hx hb dL_law_740 (by decide) (fun g => ?_) (fun g => ?_)
          · rw [if_neg g] at h
            refine lv_iconst (v := (0 : Int32)) hx hb dL_law_762 (by decide) ?_
            exact absurd (Option.some.inj h) (by decide)
          · rw [if_pos g] at h
            refine lv_aload_n hx hb dL_law_743 rfl (lv_at hl 3 rfl) ?_
            refine lv_iconst (v := (5 : Int32)) hx hb dL_law_744 (by decide) ?_
            obtain ⟨q42, h41, h⟩ := Option.bind_eq_some_iff.mp h
            refine kciA (va_runV (As := [.int (5 : Int32)]) (rest := []) ⟨hx, hb, hml, hown, hts⟩ (aX9_count l D cI cC cS lo aV q40.2 (wAR cI bW 2 c1_0) (5 : Int32) h41) (cwV 1 hts gL_law_X9_count rfl rfl rfl (by decide +kernel) ⟨Nat.le_of_ble_eq_true rfl, Nat.le_of_ble_eq_true rfl⟩) (kpreVA hP hK hN (Nat.le_trans hz hS.1)) rfl rfl hl.1 rfl (lv_room (Nat.le_of_ble_eq_true rfl)) dL_law_745 ⟨lw_ob (n := 1) (by omega) rfl, lw_ob (n := 4) (by omega) rfl⟩) hS (fun H locs hP hS => ?_)
            refine lv_iload hx hb dL_law_748 (lv_at hl 1 rfl) ?_
            refine lv_icmp_ne (tgt := 762) hx hb dL_law_750 (by decide) (fun g => ?_) (fun g => ?_)
            · rw [if_neg g] at h
              refine lv_iconst (v := (0 : Int32)) hx hb dL_law_762 (by decide) ?_
              exact absurd (Option.some.inj h) (by decide)
            · rw [if_pos g] at h
              refine lv_aload_n hx hb dL_law_753 rfl (lv_at hl 3 rfl) ?_
              refine lv_bipush (v := (8 : Int32)) hx hb dL_law_754 (by decide) ?_
              obtain ⟨q44, h43, h⟩ := Option.bind_eq_some_iff.mp h
              refine kciA (va_runV (As := [.int (8 : Int32)]) (rest := []) ⟨hx, hb, hml, hown, hts⟩ (aX9_count l D cI cC cS lo aV q40.2 (wAR cI bW 2 c1_0) (8 : Int32) h43) (cwV 1 hts gL_law_X9_count rfl rfl rfl (by decide +kernel) ⟨Nat.le_of_ble_eq_true rfl, Nat.le_of_ble_eq_true rfl⟩) (kpreVA hP hK hN (Nat.le_trans hz hS.1)) rfl rfl hl.1 rfl (lv_room (Nat.le_of_ble_eq_true rfl)) dL_law_756 ⟨lw_ob (n := 1) (by omega) rfl, lw_ob (n := 4) (by omega) rfl⟩) hS (fun H locs hP hS => ?_)
              refine lv_if_eq (tgt := 764) hx hb dL_law_759 (by decide) (fun g => ?_) (fun g => ?_)
              · rw [if_pos g] at h
                exact j764 q40.2 c1_0 y3 y4 y5 _ _ (by omega) _ _ _ h hP hS (lv_sub hl [2, 3, 4, 5, 6, 7] rfl)
              · rw [if_neg g] at h
                refine lv_iconst (v := (0 : Int32)) hx hb dL_law_762 (by decide) ?_
                exact absurd (Option.some.inj h) (by decide)
        · rw [if_pos g] at h
          refine lv_aload_n hx hb dL_law_721 rfl (lv_at hl 3 rfl) ?_
          obtain ⟨q46, h45, h⟩ := Option.bind_eq_some_iff.mp h
          refine kciA (va_runS (As := [.ref aV]) (rest := []) ⟨hx, hb, hml, hown, hts⟩ (kL_turns l D cI cC cS lo aV c0_0 (wAR cI bW 2 c1_0) h45) (cwS 1 hts gL_law_L_turns rfl rfl rfl (by decide +kernel) ⟨Nat.le_of_ble_eq_true rfl, Nat.le_of_ble_eq_true rfl⟩) (kpreA hP hK hN (Nat.le_trans hz hS.1)) rfl rfl hl.1 rfl (lv_room (Nat.le_of_ble_eq_true rfl)) dL_law_722 ⟨lw_ob (n := 1) (by omega) rfl, lw_ob (n := 4) (by omega) rfl⟩) hS (fun H locs hP hS => ?_)
          refine lv_if_ne (tgt := 764) hx hb dL_law_725 (by decide) (fun g => ?_) (fun g => ?_)
          · rw [if_neg g] at h
            exact j764 q46.2 c1_0 y3 y4 y5 _ _ (by omega) _ _ _ h hP hS (lv_sub hl [2, 3, 4, 5, 6, 7] rfl)
          · rw [if_pos g] at h
            refine lv_goto (tgt := 762) hx hb dL_law_728 (by decide) ?_
            refine lv_iconst (v := (0 : Int32)) hx hb dL_law_762 (by decide) ?_
            exact absurd (Option.some.inj h) (by decide)
      have j568 : ∀ (c0_0 : Sg) (c1_0 : (Nat → Int32)) (y3 : Int32) (y4 : Int32) (y5 : Int32) (y6 : Int32) (y7 : Int32) (y8 : Int32) (y9 : Int32) (u v : Nat) (hu : u + (nL42 + 1) ≤ 1000 ∧ v + 4 * (nL42 + 1) ≤ 20000) (H : Heap) (locs : List Loc) (ls : Array Slot), pL_law_j568 xs L (pL_law_L42 xs L nL42) c0_0 c1_0 y3 y4 y5 y6 y7 y8 y9 = some 1 → (aW D cI cC cS lo aV c0_0 (wAR cI bW 2 c1_0)) H → va_S (fun q => lo ≤ q) s.heap H locs → lv_has ls 17 [(0, .ref b), (1, .ref aV), (2, .ref bW), (3, .int y3), (4, .int y4), (5, .int y5), (6, .int y6), (7, .int y7), (8, .int y8), (9, .int y9)] → W p l e room_1 s m #[Value.ref b] below meth c H locs u v (lw_Z below #[Value.ref b] s) (F0 m 568 ls []) := by
        skip
        intro c0_0 c1_0 y3 y4 y5 y6 y7 y8 y9 u v hu H locs ls h hP hS hl
        unfold pL_law_j568 at h
        refine lv_iload hx hb dL_law_568 (lv_at hl 8 rfl) ?_
        refine lv_bipush (v := (8 : Int32)) hx hb dL_law_570 (by decide) ?_
        refine lv_icmp_ne (tgt := 615) hx hb dL_law_572 (by decide) (fun g => ?_) (fun g => ?_)
        · rw [if_neg g] at h
          refine lv_iload hx hb dL_law_615 (lv_at hl 8 rfl) ?_
          refine lv_bipush (v := (9 : Int32)) hx hb dL_law_617 (by decide) ?_
          refine lv_icmp_ne (tgt := 661) hx hb dL_law_619 (by decide) (fun g => ?_) (fun g => ?_)
          · rw [if_neg g] at h
            refine lv_iload hx hb dL_law_661 (lv_at hl 8 rfl) ?_
            refine lv_bipush (v := (10 : Int32)) hx hb dL_law_663 (by decide) ?_
            refine lv_icmp_ne (tgt := 767) hx hb dL_law_665 (by decide) (fun g => ?_) (fun g => ?_)
            · rw [if_neg g] at h
              refine lv_iload hx hb dL_law_767 (lv_at hl 8 rfl) ?_
              refine lv_bipush (v := (11 : Int32)) hx hb dL_law_769 (by decide) ?_
              refine lv_icmp_ne (tgt := 791) hx hb dL_law_771 (by decide) (fun g => ?_) (fun g => ?_)
              · rw [if_neg g] at h
                refine lv_aload_n hx hb dL_law_791 rfl (lv_at hl 1 rfl) ?_
                obtain ⟨q20, h19, h⟩ := Option.bind_eq_some_iff.mp h
                refine kciA (va_runS (As := [.ref aV]) (rest := []) ⟨hx, hb, hml, hown, hts⟩ (kL_maps l D cI cC cS lo aV c0_0 (wAR cI bW 2 c1_0) h19) (cwS 1 hts gL_law_L_maps rfl rfl rfl (by decide +kernel) ⟨Nat.le_of_ble_eq_true rfl, Nat.le_of_ble_eq_true rfl⟩) (kpreA hP hK hN (Nat.le_trans hz hS.1)) rfl rfl hl.1 rfl (lv_room (Nat.le_of_ble_eq_true rfl)) dL_law_792 ⟨lw_ob (n := 1) (by omega) rfl, lw_ob (n := 4) (by omega) rfl⟩) hS (fun H locs hP hS => ?_)
                refine lv_if_ne (tgt := 800) hx hb dL_law_795 (by decide) (fun g => ?_) (fun g => ?_)
                · rw [if_neg g] at h
                  exact j800 q20.2 c1_0 y3 y4 y5 _ _ (by omega) _ _ _ h hP hS (lv_sub hl [0, 1, 2, 3, 4, 5] rfl)
                · rw [if_pos g] at h
                  refine lv_iconst (v := (0 : Int32)) hx hb dL_law_798 (by decide) ?_
                  exact absurd (Option.some.inj h) (by decide)
              · rw [if_pos g] at h
                refine lv_aload_n hx hb dL_law_774 rfl (lv_at hl 1 rfl) ?_
                refine lv_iload hx hb dL_law_775 (lv_at hl 9 rfl) ?_
                refine lv_iload hx hb dL_law_777 (lv_at hl 6 rfl) ?_
                refine lv_iconst (v := (1 : Int32)) hx hb dL_law_779 (by decide) ?_
                refine lv_ishr hx hb dL_law_780 ?_
                refine lv_iload hx hb dL_law_781 (lv_at hl 7 rfl) ?_
                obtain ⟨q28, h27, h⟩ := Option.bind_eq_some_iff.mp h
                refine kciA (va_runS (As := [.ref aV, .int y9, .int (y6 >>> ((1 : Int32) &&& 31)), .int y7]) (rest := []) ⟨hx, hb, hml, hown, hts⟩ (kL_refers l D cI cC cS lo aV c0_0 (wAR cI bW 2 c1_0) y9 (y6 >>> ((1 : Int32) &&& 31)) y7 h27) (cwS 4 hts gL_law_L_refers rfl rfl rfl (by decide +kernel) ⟨Nat.le_of_ble_eq_true rfl, Nat.le_of_ble_eq_true rfl⟩) (kpreA hP hK hN (Nat.le_trans hz hS.1)) rfl rfl hl.1 rfl (lv_room (Nat.le_of_ble_eq_true rfl)) dL_law_783 ⟨lw_ob (n := 1) (by omega) rfl, lw_ob (n := 4) (by omega) rfl⟩) hS (fun H locs hP hS => ?_)
                refine lv_if_ne (tgt := 800) hx hb dL_law_786 (by decide) (fun g => ?_) (fun g => ?_)
                · rw [if_neg g] at h
                  exact j800 q28.2 c1_0 y3 y4 y5 _ _ (by omega) _ _ _ h hP hS (lv_sub hl [0, 1, 2, 3, 4, 5] rfl)
                · rw [if_pos g] at h
                  refine lv_iconst (v := (0 : Int32)) hx hb dL_law_789 (by decide) ?_
                  exact absurd (Option.some.inj h) (by decide)
            · rw [if_pos g] at h
              refine lv_aload_n hx hb dL_law_668 rfl (lv_at hl 1 rfl) ?_
              refine lv_iconst (v := (2 : Int32)) hx hb dL_law_669 (by decide) ?_
              obtain ⟨q30, h29, h⟩ := Option.bind_eq_some_iff.mp h
              refine kciA (va_runV (As := [.int (2 : Int32)]) (rest := []) ⟨hx, hb, hml, hown, hts⟩ (aX9_count l D cI cC cS lo aV c0_0 (wAR cI bW 2 c1_0) (2 : Int32) h29) (cwV 1 hts gL_law_X9_count rfl rfl rfl (by decide +kernel) ⟨Nat.le_of_ble_eq_true rfl, Nat.le_of_ble_eq_true rfl⟩) (kpreVA hP hK hN (Nat.le_trans hz hS.1)) rfl rfl hl.1 rfl (lv_room (Nat.le_of_ble_eq_true rfl)) dL_law_670 ⟨lw_ob (n := 1) (by omega) rfl, lw_ob (n := 4) (by omega) rfl⟩) hS (fun H locs hP hS => ?_)
              refine lv_aload_n hx hb dL_law_673 rfl (lv_at hl 1 rfl) ?_
              refine lv_iconst (v := (3 : Int32)) hx hb dL_law_674 (by decide) ?_
              obtain ⟨q32, h31, h⟩ := Option.bind_eq_some_iff.mp h
              refine kciA (va_runV (As := [.int (3 : Int32)]) (rest := [.int q30]) ⟨hx, hb, hml, hown, hts⟩ (aX9_count l D cI cC cS lo aV c0_0 (wAR cI bW 2 c1_0) (3 : Int32) h31) (cwV 1 hts gL_law_X9_count rfl rfl rfl (by decide +kernel) ⟨Nat.le_of_ble_eq_true rfl, Nat.le_of_ble_eq_true rfl⟩) (kpreVA hP hK hN (Nat.le_trans hz hS.1)) rfl rfl hl.1 rfl (lv_room (Nat.le_of_ble_eq_true rfl)) dL_law_675 ⟨lw_ob (n := 1) (by omega) rfl, lw_ob (n := 4) (by omega) rfl⟩) hS (fun H locs hP hS => ?_)
              refine lv_icmp_ge (tgt := 689) hx hb dL_law_678 (by decide) (fun g => ?_) (fun g => ?_)
              · rw [if_pos g] at h
                refine lv_aload_n hx hb dL_law_689 rfl (lv_at hl 1 rfl) ?_
                refine lv_iconst (v := (3 : Int32)) hx hb dL_law_690 (by decide) ?_
                obtain ⟨q34, h33, h⟩ := Option.bind_eq_some_iff.mp h
                refine kciA (va_runV (As := [.int (3 : Int32)]) (rest := []) ⟨hx, hb, hml, hown, hts⟩ (aX9_count l D cI cC cS lo aV c0_0 (wAR cI bW 2 c1_0) (3 : Int32) h33) (cwV 1 hts gL_law_X9_count rfl rfl rfl (by decide +kernel) ⟨Nat.le_of_ble_eq_true rfl, Nat.le_of_ble_eq_true rfl⟩) (kpreVA hP hK hN (Nat.le_trans hz hS.1)) rfl rfl hl.1 rfl (lv_room (Nat.le_of_ble_eq_true rfl)) dL_law_691 ⟨lw_ob (n := 1) (by omega) rfl, lw_ob (n := 4) (by omega) rfl⟩) hS (fun H locs hP hS => ?_)
                exact j694 c0_0 c1_0 y3 y4 y5 y7 q34 _ _ (by omega) _ _ _ h hP hS (lv_sub hl [0, 1, 2, 3, 4, 5, 7] rfl)
              · rw [if_neg g] at h
                refine lv_aload_n hx hb dL_law_681 rfl (lv_at hl 1 rfl) ?_
                refine lv_iconst (v := (2 : Int32)) hx hb dL_law_682 (by decide) ?_
                obtain ⟨q48, h47, h⟩ := Option.bind_eq_some_iff.mp h
                refine kciA (va_runV (As := [.int (2 : Int32)]) (rest := []) ⟨hx, hb, hml, hown, hts⟩ (aX9_count l D cI cC cS lo aV c0_0 (wAR cI bW 2 c1_0) (2 : Int32) h47) (cwV 1 hts gL_law_X9_count rfl rfl rfl (by decide +kernel) ⟨Nat.le_of_ble_eq_true rfl, Nat.le_of_ble_eq_true rfl⟩) (kpreVA hP hK hN (Nat.le_trans hz hS.1)) rfl rfl hl.1 rfl (lv_room (Nat.le_of_ble_eq_true rfl)) dL_law_683 ⟨lw_ob (n := 1) (by omega) rfl, lw_ob (n := 4) (by omega) rfl⟩) hS (fun H locs hP hS => ?_)
                refine lv_goto (tgt := 694) hx hb dL_law_686 (by decide) ?_
                exact j694 c0_0 c1_0 y3 y4 y5 y7 q48 _ _ (by omega) _ _ _ h hP hS (lv_sub hl [0, 1, 2, 3, 4, 5, 7] rfl)
          · rw [if_pos g] at h
            refine lv_iload_n hx hb dL_law_622 rfl (lv_at hl 3 rfl) ?_
            refine lv_istore (lv' := [(14, .int y3), (0, .ref b), (1, .ref aV), (2, .ref bW), (3, .int y3), (4, .int y4), (5, .int y5), (6, .int y6), (7, .int y7), (8, .int y8), (9, .int y9)]) hx hb dL_law_623 hl (by decide) rfl (fun ls hl => ?_)
            refine lv_iconst (v := (5 : Int32)) hx hb dL_law_625 (by decide) ?_
            refine lv_iload hx hb dL_law_626 (lv_at hl 8 rfl) ?_
            refine lv_bipush (v := (60 : Int32)) hx hb dL_law_628 (by decide) ?_
            obtain ⟨q50, h49, h⟩ := Option.bind_eq_some_iff.mp h
            refine kciA (va_runS (As := [.int y7, .int (60 : Int32)]) (rest := [.int (5 : Int32)]) ⟨hx, hb, hml, hown, hts⟩ (kL_low l D cI cC cS lo (aW D cI cC cS lo aV c0_0 (wAR cI bW 2 c1_0)) y7 (60 : Int32) h49) (cwS 2 hts gL_law_L_low rfl rfl rfl (by decide +kernel) ⟨Nat.le_of_ble_eq_true rfl, Nat.le_of_ble_eq_true rfl⟩) (kpreA hP hK hN (Nat.le_trans hz hS.1)) rfl rfl hl.1 rfl (lv_room (Nat.le_of_ble_eq_true rfl)) dL_law_630 ⟨lw_ob (n := 1) (by omega) rfl, lw_ob (n := 4) (by omega) rfl⟩) hS (fun H locs hP hS => ?_)
            refine lv_iadd hx hb dL_law_633 ?_
            refine lv_istore_n (lv' := [(3, .int ((5 : Int32) + q50)), (14, .int y3), (0, .ref b), (1, .ref aV), (2, .ref bW), (4, .int y4), (5, .int y5), (6, .int y6), (7, .int y7), (8, .int y8), (9, .int y9)]) hx hb dL_law_634 rfl hl (by decide) rfl (fun ls hl => ?_)
            refine lv_iload hx hb dL_law_635 (lv_at hl 7 rfl) ?_
            refine lv_bipush (v := (6 : Int32)) hx hb dL_law_637 (by decide) ?_
            obtain ⟨q52, h51, h⟩ := Option.bind_eq_some_iff.mp h
            refine kciA (va_runS (As := [.int y6, .int (6 : Int32)]) (rest := []) ⟨hx, hb, hml, hown, hts⟩ (kL_low l D cI cC cS lo (aW D cI cC cS lo aV c0_0 (wAR cI bW 2 c1_0)) y6 (6 : Int32) h51) (cwS 2 hts gL_law_L_low rfl rfl rfl (by decide +kernel) ⟨Nat.le_of_ble_eq_true rfl, Nat.le_of_ble_eq_true rfl⟩) (kpreA hP hK hN (Nat.le_trans hz hS.1)) rfl rfl hl.1 rfl (lv_room (Nat.le_of_ble_eq_true rfl)) dL_law_639 ⟨lw_ob (n := 1) (by omega) rfl, lw_ob (n := 4) (by omega) rfl⟩) hS (fun H locs hP hS => ?_)
            refine lv_istore (lv' := [(4, .int q52), (3, .int ((5 : Int32) + q50)), (14, .int y3), (0, .ref b), (1, .ref aV), (2, .ref bW), (5, .int y5), (6, .int y6), (7, .int y7), (8, .int y8), (9, .int y9)]) hx hb dL_law_642 hl (by decide) rfl (fun ls hl => ?_)
            refine lv_aload_n hx hb dL_law_644 rfl (lv_at hl 4 rfl) ?_
            refine lv_iload_n hx hb dL_law_645 rfl (lv_at hl 1 rfl) ?_
            refine lv_iload hx hb dL_law_646 (lv_at hl 0 rfl) ?_
            obtain ⟨q54, h53, h⟩ := Option.bind_eq_some_iff.mp h
            refine kciA (va_runV (As := [.int ((5 : Int32) + q50), .int q52]) (rest := []) ⟨hx, hb, hml, hown, hts⟩ (aX9_setHeights l D cI cC cS lo aV c0_0 (wAR cI bW 2 c1_0) ((5 : Int32) + q50) q52 h53) (cwV 2 hts gL_law_X9_setHeights rfl rfl rfl (by decide +kernel) ⟨Nat.le_of_ble_eq_true rfl, Nat.le_of_ble_eq_true rfl⟩) (kpreVA hP hK hN (Nat.le_trans hz hS.1)) rfl rfl hl.1 rfl (lv_room (Nat.le_of_ble_eq_true rfl)) dL_law_648 ⟨lw_ob (n := 1) (by omega) rfl, lw_ob (n := 4) (by omega) rfl⟩) hS (fun H locs hP hS => ?_)
            refine lv_iload hx hb dL_law_651 (lv_at hl 2 rfl) ?_
            refine lv_icmp_eq (tgt := 658) hx hb dL_law_653 (by decide) (fun g => ?_) (fun g => ?_)
            · rw [if_pos g] at h
              refine lv_goto (tgt := 800) hx hb dL_law_658 (by decide) ?_
              exact j800 q54.2 c1_0 ((5 : Int32) + q50) q52 y5 _ _ (by omega) _ _ _ h hP hS (lv_sub hl [3, 4, 5, 1, 0, 6] rfl)
            · rw [if_neg g] at h
              refine lv_iconst (v := (0 : Int32)) hx hb dL_law_656 (by decide) ?_
              exact absurd (Option.some.inj h) (by decide)
        · rw [if_pos g] at h
          refine lv_aload_n hx hb dL_law_575 rfl (lv_at hl 2 rfl) ?_
          refine lv_iload hx hb dL_law_576 (lv_at hl 9 rfl) ?_
          obtain ⟨g, h⟩ := kif h
          refine va_iald hx hb hK hP.xp 0 0 rfl rfl (kin g) dL_law_578 ?_
          refine lv_istore (lv' := [(14, .int (c1_0 y9.toNatClampNeg)), (0, .ref b), (1, .ref aV), (2, .ref bW), (3, .int y3), (4, .int y4), (5, .int y5), (6, .int y6), (7, .int y7), (8, .int y8), (9, .int y9)]) hx hb dL_law_579 hl (by decide) rfl (fun ls hl => ?_)
          refine lv_aload_n hx hb dL_law_581 rfl (lv_at hl 3 rfl) ?_
          refine lv_iload hx hb dL_law_582 (lv_at hl 10 rfl) ?_
          refine lv_bipush (v := (10 : Int32)) hx hb dL_law_584 (by decide) ?_
          refine lv_iload hx hb dL_law_586 (lv_at hl 8 rfl) ?_
          refine lv_bipush (v := (60 : Int32)) hx hb dL_law_588 (by decide) ?_
          obtain ⟨q56, h55, h⟩ := Option.bind_eq_some_iff.mp h
          refine kciA (va_runS (As := [.int y7, .int (60 : Int32)]) (rest := [.int (10 : Int32), .int y9, .ref bW]) ⟨hx, hb, hml, hown, hts⟩ (kL_low l D cI cC cS lo (aW D cI cC cS lo aV c0_0 (wAR cI bW 2 c1_0)) y7 (60 : Int32) h55) (cwS 2 hts gL_law_L_low rfl rfl rfl (by decide +kernel) ⟨Nat.le_of_ble_eq_true rfl, Nat.le_of_ble_eq_true rfl⟩) (kpreA hP hK hN (Nat.le_trans hz hS.1)) rfl rfl hl.1 rfl (lv_room (Nat.le_of_ble_eq_true rfl)) dL_law_590 ⟨lw_ob (n := 1) (by omega) rfl, lw_ob (n := 4) (by omega) rfl⟩) hS (fun H locs hP hS => ?_)
          refine lv_iadd hx hb dL_law_593 ?_
          obtain ⟨g, h⟩ := kif h
          refine aW_kst (X := []) hx hb hK hP hS (kin g) dL_law_594 (fun H locs hP hS => ?_)
          have hP : (aW D cI cC cS lo aV c0_0 (wAR cI bW 2 (upd c1_0 y9.toNatClampNeg ((10 : Int32) + q56)))) H := hP
          refine lv_aload_n hx hb dL_law_595 rfl (lv_at hl 2 rfl) ?_
          refine lv_iload hx hb dL_law_596 (lv_at hl 10 rfl) ?_
          refine lv_aload_n hx hb dL_law_598 rfl (lv_at hl 3 rfl) ?_
          refine lv_iload hx hb dL_law_599 (lv_at hl 10 rfl) ?_
          obtain ⟨g, h⟩ := kif h
          refine va_iald hx hb hK hP.xp 0 0 rfl rfl (kin g) dL_law_601 ?_
          obtain ⟨q58, h57, h⟩ := Option.bind_eq_some_iff.mp h
          refine kciA (va_runV (As := [.int y9, .int ((upd c1_0 y9.toNatClampNeg ((10 : Int32) + q56)) y9.toNatClampNeg)]) (rest := []) ⟨hx, hb, hml, hown, hts⟩ (aX9_setWidth l D cI cC cS lo aV c0_0 (wAR cI bW 2 (upd c1_0 y9.toNatClampNeg ((10 : Int32) + q56))) y9 ((upd c1_0 y9.toNatClampNeg ((10 : Int32) + q56)) y9.toNatClampNeg) h57) (cwV 2 hts gL_law_X9_setWidth rfl rfl rfl (by decide +kernel) ⟨Nat.le_of_ble_eq_true rfl, Nat.le_of_ble_eq_true rfl⟩) (kpreVA hP hK hN (Nat.le_trans hz hS.1)) rfl rfl hl.1 rfl (lv_room (Nat.le_of_ble_eq_true rfl)) dL_law_602 ⟨lw_ob (n := 1) (by omega) rfl, lw_ob (n := 4) (by omega) rfl⟩) hS (fun H locs hP hS => ?_)
          refine lv_iload hx hb dL_law_605 (lv_at hl 0 rfl) ?_
          refine lv_icmp_eq (tgt := 612) hx hb dL_law_607 (by decide) (fun g => ?_) (fun g => ?_)
          · rw [if_pos g] at h
            refine lv_goto (tgt := 800) hx hb dL_law_612 (by decide) ?_
            exact j800 q58.2 (upd c1_0 y9.toNatClampNeg ((10 : Int32) + q56)) y3 y4 y5 _ _ (by omega) _ _ _ h hP hS (lv_sub hl [1, 2, 3, 4, 5, 6] rfl)
          · rw [if_neg g] at h
            refine lv_iconst (v := (0 : Int32)) hx hb dL_law_610 (by decide) ?_
            exact absurd (Option.some.inj h) (by decide)
      have j531 : ∀ (c0_0 : Sg) (c1_0 : (Nat → Int32)) (y3 : Int32) (y4 : Int32) (y5 : Int32) (y6 : Int32) (y7 : Int32) (y8 : Int32) (y9 : Int32) (y12 : Int32) (y13 : Int32) (u v : Nat) (hu : u + (nL42 + 1) ≤ 1000 ∧ v + 4 * (nL42 + 1) ≤ 20000) (H : Heap) (locs : List Loc) (ls : Array Slot), pL_law_j531 xs L (pL_law_L42 xs L nL42) c0_0 c1_0 y3 y4 y5 y6 y7 y8 y9 y12 y13 = some 1 → (aW D cI cC cS lo aV c0_0 (wAR cI bW 2 c1_0)) H → va_S (fun q => lo ≤ q) s.heap H locs → lv_has ls 17 [(0, .ref b), (1, .ref aV), (2, .ref bW), (3, .int y3), (4, .int y4), (5, .int y5), (6, .int y6), (7, .int y7), (8, .int y8), (9, .int y9), (12, .int y12), (13, .int y13)] → W p l e room_1 s m #[Value.ref b] below meth c H locs u v (lw_Z below #[Value.ref b] s) (F0 m 531 ls []) := by
        skip
        intro c0_0 c1_0 y3 y4 y5 y6 y7 y8 y9 y12 y13 u v hu H locs ls h hP hS hl
        unfold pL_law_j531 at h
        refine lv_iload hx hb dL_law_531 (lv_at hl 8 rfl) ?_
        refine lv_bipush (v := (7 : Int32)) hx hb dL_law_533 (by decide) ?_
        refine lv_icmp_ne (tgt := 568) hx hb dL_law_535 (by decide) (fun g => ?_) (fun g => ?_)
        · rw [if_neg g] at h
          exact j568 c0_0 c1_0 y3 y4 y5 y6 y7 y8 y9 _ _ (by omega) _ _ _ h hP hS (lv_sub hl [0, 1, 2, 3, 4, 5, 6, 7, 8, 9] rfl)
        · rw [if_pos g] at h
          refine lv_iload hx hb dL_law_538 (lv_at hl 10 rfl) ?_
          refine lv_if_le (tgt := 568) hx hb dL_law_540 (by decide) (fun g => ?_) (fun g => ?_)
          · rw [if_pos g] at h
            exact j568 c0_0 c1_0 y3 y4 y5 y6 y7 y8 y9 _ _ (by omega) _ _ _ h hP hS (lv_sub hl [0, 1, 2, 3, 4, 5, 6, 7, 8, 9] rfl)
          · rw [if_neg g] at h
            refine lv_aload_n hx hb dL_law_543 rfl (lv_at hl 1 rfl) ?_
            refine lv_iload hx hb dL_law_544 (lv_at hl 11 rfl) ?_
            refine lv_iload hx hb dL_law_546 (lv_at hl 6 rfl) ?_
            refine lv_iconst (v := (1 : Int32)) hx hb dL_law_548 (by decide) ?_
            refine lv_ishr hx hb dL_law_549 ?_
            refine lv_iconst (v := (4 : Int32)) hx hb dL_law_550 (by decide) ?_
            obtain ⟨q60, h59, h⟩ := Option.bind_eq_some_iff.mp h
            refine kciA (va_runS (As := [.int (y6 >>> ((1 : Int32) &&& 31)), .int (4 : Int32)]) (rest := [.int y13, .ref aV]) ⟨hx, hb, hml, hown, hts⟩ (kL_low l D cI cC cS lo (aW D cI cC cS lo aV c0_0 (wAR cI bW 2 c1_0)) (y6 >>> ((1 : Int32) &&& 31)) (4 : Int32) h59) (cwS 2 hts gL_law_L_low rfl rfl rfl (by decide +kernel) ⟨Nat.le_of_ble_eq_true rfl, Nat.le_of_ble_eq_true rfl⟩) (kpreA hP hK hN (Nat.le_trans hz hS.1)) rfl rfl hl.1 rfl (lv_room (Nat.le_of_ble_eq_true rfl)) dL_law_551 ⟨lw_ob (n := 1) (by omega) rfl, lw_ob (n := 4) (by omega) rfl⟩) hS (fun H locs hP hS => ?_)
            refine lv_iload hx hb dL_law_554 (lv_at hl 7 rfl) ?_
            refine lv_iconst (v := (4 : Int32)) hx hb dL_law_556 (by decide) ?_
            obtain ⟨q62, h61, h⟩ := Option.bind_eq_some_iff.mp h
            refine kciA (va_runS (As := [.int y7, .int (4 : Int32)]) (rest := [.int q60, .int y13, .ref aV]) ⟨hx, hb, hml, hown, hts⟩ (kL_low l D cI cC cS lo (aW D cI cC cS lo aV c0_0 (wAR cI bW 2 c1_0)) y7 (4 : Int32) h61) (cwS 2 hts gL_law_L_low rfl rfl rfl (by decide +kernel) ⟨Nat.le_of_ble_eq_true rfl, Nat.le_of_ble_eq_true rfl⟩) (kpreA hP hK hN (Nat.le_trans hz hS.1)) rfl rfl hl.1 rfl (lv_room (Nat.le_of_ble_eq_true rfl)) dL_law_557 ⟨lw_ob (n := 1) (by omega) rfl, lw_ob (n := 4) (by omega) rfl⟩) hS (fun H locs hP hS => ?_)
            obtain ⟨q64, h63, h⟩ := Option.bind_eq_some_iff.mp h
            refine kciA (va_runS (As := [.ref aV, .int y13, .int q60, .int q62]) (rest := []) ⟨hx, hb, hml, hown, hts⟩ (kL_parts l D cI cC cS lo aV c0_0 (wAR cI bW 2 c1_0) y13 q60 q62 h63) (cwS 4 hts gL_law_L_parts rfl rfl rfl (by decide +kernel) ⟨Nat.le_of_ble_eq_true rfl, Nat.le_of_ble_eq_true rfl⟩) (kpreA hP hK hN (Nat.le_trans hz hS.1)) rfl rfl hl.1 rfl (lv_room (Nat.le_of_ble_eq_true rfl)) dL_law_560 ⟨lw_ob (n := 1) (by omega) rfl, lw_ob (n := 4) (by omega) rfl⟩) hS (fun H locs hP hS => ?_)
            refine lv_if_ne (tgt := 800) hx hb dL_law_563 (by decide) (fun g => ?_) (fun g => ?_)
            · rw [if_neg g] at h
              exact j800 q64.2 c1_0 y3 y4 y5 _ _ (by omega) _ _ _ h hP hS (lv_sub hl [0, 1, 2, 3, 4, 5] rfl)
            · rw [if_pos g] at h
              refine lv_iconst (v := (0 : Int32)) hx hb dL_law_566 (by decide) ?_
              exact absurd (Option.some.inj h) (by decide)
      have j458 : ∀ (c0_0 : Sg) (c1_0 : (Nat → Int32)) (y3 : Int32) (y4 : Int32) (y5 : Int32) (y6 : Int32) (y7 : Int32) (y8 : Int32) (y9 : Int32) (y12 : Int32) (y13 : Int32) (u v : Nat) (hu : u + (nL42 + 1) ≤ 1000 ∧ v + 4 * (nL42 + 1) ≤ 20000) (H : Heap) (locs : List Loc) (ls : Array Slot), pL_law_j458 xs L (pL_law_L42 xs L nL42) c0_0 c1_0 y3 y4 y5 y6 y7 y8 y9 y12 y13 = some 1 → (aW D cI cC cS lo aV c0_0 (wAR cI bW 2 c1_0)) H → va_S (fun q => lo ≤ q) s.heap H locs → lv_has ls 17 [(0, .ref b), (1, .ref aV), (2, .ref bW), (3, .int y3), (4, .int y4), (5, .int y5), (6, .int y6), (7, .int y7), (8, .int y8), (9, .int y9), (12, .int y12), (13, .int y13)] → W p l e room_1 s m #[Value.ref b] below meth c H locs u v (lw_Z below #[Value.ref b] s) (F0 m 458 ls []) := by
        skip
        intro c0_0 c1_0 y3 y4 y5 y6 y7 y8 y9 y12 y13 u v hu H locs ls h hP hS hl
        unfold pL_law_j458 at h
        refine lv_iload hx hb dL_law_458 (lv_at hl 8 rfl) ?_
        refine lv_bipush (v := (7 : Int32)) hx hb dL_law_460 (by decide) ?_
        refine lv_icmp_ge (tgt := 531) hx hb dL_law_462 (by decide) (fun g => ?_) (fun g => ?_)
        · rw [if_pos g] at h
          exact j531 c0_0 c1_0 y3 y4 y5 y6 y7 y8 y9 y12 y13 _ _ (by omega) _ _ _ h hP hS (lv_sub hl [0, 1, 2, 3, 4, 5, 6, 7, 8, 9, 10, 11] rfl)
        · rw [if_neg g] at h
          refine lv_iload hx hb dL_law_465 (lv_at hl 10 rfl) ?_
          refine lv_iconst (v := (1 : Int32)) hx hb dL_law_467 (by decide) ?_
          refine lv_icmp_le (tgt := 531) hx hb dL_law_468 (by decide) (fun g => ?_) (fun g => ?_)
          · rw [if_pos g] at h
            exact j531 c0_0 c1_0 y3 y4 y5 y6 y7 y8 y9 y12 y13 _ _ (by omega) _ _ _ h hP hS (lv_sub hl [0, 1, 2, 3, 4, 5, 6, 7, 8, 9, 10, 11] rfl)
          · rw [if_neg g] at h
            refine lv_iload hx hb dL_law_471 (lv_at hl 7 rfl) ?_
            refine lv_iload hx hb dL_law_473 (lv_at hl 10 rfl) ?_
            refine lv_iconst (v := (1 : Int32)) hx hb dL_law_475 (by decide) ?_
            refine lv_isub hx hb dL_law_476 ?_
            obtain ⟨q66, h65, h⟩ := Option.bind_eq_some_iff.mp h
            refine kciA (va_runS (As := [.int y7, .int (y12 - (1 : Int32))]) (rest := []) ⟨hx, hb, hml, hown, hts⟩ (kL_low l D cI cC cS lo (aW D cI cC cS lo aV c0_0 (wAR cI bW 2 c1_0)) y7 (y12 - (1 : Int32)) h65) (cwS 2 hts gL_law_L_low rfl rfl rfl (by decide +kernel) ⟨Nat.le_of_ble_eq_true rfl, Nat.le_of_ble_eq_true rfl⟩) (kpreA hP hK hN (Nat.le_trans hz hS.1)) rfl rfl hl.1 rfl (lv_room (Nat.le_of_ble_eq_true rfl)) dL_law_477 ⟨lw_ob (n := 1) (by omega) rfl, lw_ob (n := 4) (by omega) rfl⟩) hS (fun H locs hP hS => ?_)
            refine lv_istore (lv' := [(14, .int q66), (0, .ref b), (1, .ref aV), (2, .ref bW), (3, .int y3), (4, .int y4), (5, .int y5), (6, .int y6), (7, .int y7), (8, .int y8), (9, .int y9), (12, .int y12), (13, .int y13)]) hx hb dL_law_480 hl (by decide) rfl (fun ls hl => ?_)
            refine lv_aload_n hx hb dL_law_482 rfl (lv_at hl 2 rfl) ?_
            refine lv_iload hx hb dL_law_483 (lv_at hl 0 rfl) ?_
            refine lv_iconst (v := (2 : Int32)) hx hb dL_law_485 (by decide) ?_
            obtain ⟨q68, h67, h⟩ := Option.bind_eq_some_iff.mp h
            refine kciA (va_runV (As := [.int q66, .int (2 : Int32)]) (rest := []) ⟨hx, hb, hml, hown, hts⟩ (aX9_group l D cI cC cS lo aV c0_0 (wAR cI bW 2 c1_0) q66 (2 : Int32) h67) (cwV 2 hts gL_law_X9_group rfl rfl rfl (by decide +kernel) ⟨Nat.le_of_ble_eq_true rfl, Nat.le_of_ble_eq_true rfl⟩) (kpreVA hP hK hN (Nat.le_trans hz hS.1)) rfl rfl hl.1 rfl (lv_room (Nat.le_of_ble_eq_true rfl)) dL_law_486 ⟨lw_ob (n := 1) (by omega) rfl, lw_ob (n := 4) (by omega) rfl⟩) hS (fun H locs hP hS => ?_)
            refine lv_aload_n hx hb dL_law_489 rfl (lv_at hl 2 rfl) ?_
            refine lv_iload hx hb dL_law_490 (lv_at hl 0 rfl) ?_
            refine lv_iconst (v := (1 : Int32)) hx hb dL_law_492 (by decide) ?_
            refine lv_iadd hx hb dL_law_493 ?_
            refine lv_iconst (v := (2 : Int32)) hx hb dL_law_494 (by decide) ?_
            obtain ⟨q70, h69, h⟩ := Option.bind_eq_some_iff.mp h
            refine kciA (va_runV (As := [.int (q66 + (1 : Int32)), .int (2 : Int32)]) (rest := [.int q68]) ⟨hx, hb, hml, hown, hts⟩ (aX9_group l D cI cC cS lo aV c0_0 (wAR cI bW 2 c1_0) (q66 + (1 : Int32)) (2 : Int32) h69) (cwV 2 hts gL_law_X9_group rfl rfl rfl (by decide +kernel) ⟨Nat.le_of_ble_eq_true rfl, Nat.le_of_ble_eq_true rfl⟩) (kpreVA hP hK hN (Nat.le_trans hz hS.1)) rfl rfl hl.1 rfl (lv_room (Nat.le_of_ble_eq_true rfl)) dL_law_495 ⟨lw_ob (n := 1) (by omega) rfl, lw_ob (n := 4) (by omega) rfl⟩) hS (fun H locs hP hS => ?_)
            refine lv_iadd hx hb dL_law_498 ?_
            refine lv_istore (lv' := [(15, .int (q68 + q70)), (14, .int q66), (0, .ref b), (1, .ref aV), (2, .ref bW), (3, .int y3), (4, .int y4), (5, .int y5), (6, .int y6), (7, .int y7), (8, .int y8), (9, .int y9), (12, .int y12), (13, .int y13)]) hx hb dL_law_499 hl (by decide) rfl (fun ls hl => ?_)
            refine lv_aload_n hx hb dL_law_501 rfl (lv_at hl 3 rfl) ?_
            refine lv_iload hx hb dL_law_502 (lv_at hl 1 rfl) ?_
            obtain ⟨q72, h71, h⟩ := Option.bind_eq_some_iff.mp h
            refine kciA (va_runV (As := [.int q66]) (rest := []) ⟨hx, hb, hml, hown, hts⟩ (aX9_link l D cI cC cS lo aV c0_0 (wAR cI bW 2 c1_0) q66 h71) (cwV 1 hts gL_law_X9_link rfl rfl rfl (by decide +kernel) ⟨Nat.le_of_ble_eq_true rfl, Nat.le_of_ble_eq_true rfl⟩) (kpreVA hP hK hN (Nat.le_trans hz hS.1)) rfl rfl hl.1 rfl (lv_room (Nat.le_of_ble_eq_true rfl)) dL_law_504 ⟨lw_ob (n := 1) (by omega) rfl, lw_ob (n := 4) (by omega) rfl⟩) hS (fun H locs hP hS => ?_)
            refine lv_iload hx hb dL_law_507 (lv_at hl 12 rfl) ?_
            refine lv_iconst (v := (1 : Int32)) hx hb dL_law_509 (by decide) ?_
            refine lv_isub hx hb dL_law_510 ?_
            refine lv_icmp_ne (tgt := 526) hx hb dL_law_511 (by decide) (fun g => ?_) (fun g => ?_)
            · rw [if_neg g] at h
              refine lv_iconst (v := (0 : Int32)) hx hb dL_law_526 (by decide) ?_
              exact absurd (Option.some.inj h) (by decide)
            · rw [if_pos g] at h
              refine lv_aload_n hx hb dL_law_514 rfl (lv_at hl 3 rfl) ?_
              refine lv_iload hx hb dL_law_515 (lv_at hl 1 rfl) ?_
              refine lv_iconst (v := (2 : Int32)) hx hb dL_law_517 (by decide) ?_
              obtain ⟨q74, h73, h⟩ := Option.bind_eq_some_iff.mp h
              refine kciA (va_runV (As := [.int q66, .int (2 : Int32)]) (rest := []) ⟨hx, hb, hml, hown, hts⟩ (aX9_group l D cI cC cS lo aV q72.2 (wAR cI bW 2 c1_0) q66 (2 : Int32) h73) (cwV 2 hts gL_law_X9_group rfl rfl rfl (by decide +kernel) ⟨Nat.le_of_ble_eq_true rfl, Nat.le_of_ble_eq_true rfl⟩) (kpreVA hP hK hN (Nat.le_trans hz hS.1)) rfl rfl hl.1 rfl (lv_room (Nat.le_of_ble_eq_true rfl)) dL_law_518 ⟨lw_ob (n := 1) (by omega) rfl, lw_ob (n := 4) (by omega) rfl⟩) hS (fun H locs hP hS => ?_)
              refine lv_iload hx hb dL_law_521 (lv_at hl 0 rfl) ?_
              refine lv_icmp_eq (tgt := 528) hx hb dL_law_523 (by decide) (fun g => ?_) (fun g => ?_)
              · rw [if_pos g] at h
                refine lv_goto (tgt := 800) hx hb dL_law_528 (by decide) ?_
                exact j800 q72.2 c1_0 y3 y4 y5 _ _ (by omega) _ _ _ h hP hS (lv_sub hl [2, 3, 4, 5, 6, 7] rfl)
              · rw [if_neg g] at h
                refine lv_iconst (v := (0 : Int32)) hx hb dL_law_526 (by decide) ?_
                exact absurd (Option.some.inj h) (by decide)
      have j422 : ∀ (c0_0 : Sg) (c1_0 : (Nat → Int32)) (y3 : Int32) (y4 : Int32) (y5 : Int32) (y6 : Int32) (y7 : Int32) (y8 : Int32) (y9 : Int32) (y10 : Int32) (y11 : Int32) (y12 : Int32) (y13 : Int32) (u v : Nat) (hu : u + (nL42 + 1) ≤ 1000 ∧ v + 4 * (nL42 + 1) ≤ 20000) (H : Heap) (locs : List Loc) (ls : Array Slot), pL_law_j422 xs L (pL_law_L42 xs L nL42) c0_0 c1_0 y3 y4 y5 y6 y7 y8 y9 y10 y11 y12 y13 = some 1 → (aW D cI cC cS lo aV c0_0 (wAR cI bW 2 c1_0)) H → va_S (fun q => lo ≤ q) s.heap H locs → lv_has ls 17 [(0, .ref b), (1, .ref aV), (2, .ref bW), (3, .int y3), (4, .int y4), (5, .int y5), (6, .int y6), (7, .int y7), (8, .int y8), (9, .int y9), (10, .int y10), (11, .int y11), (12, .int y12), (13, .int y13)] → W p l e room_1 s m #[Value.ref b] below meth c H locs u v (lw_Z below #[Value.ref b] s) (F0 m 422 ls []) := by
        skip
        intro c0_0 c1_0 y3 y4 y5 y6 y7 y8 y9 y10 y11 y12 y13 u v hu H locs ls h hP hS hl
        unfold pL_law_j422 at h
        refine lv_iload hx hb dL_law_422 (lv_at hl 8 rfl) ?_
        refine lv_iconst (v := (3 : Int32)) hx hb dL_law_424 (by decide) ?_
        refine lv_icmp_ne (tgt := 458) hx hb dL_law_425 (by decide) (fun g => ?_) (fun g => ?_)
        · rw [if_neg g] at h
          exact j458 c0_0 c1_0 y3 y4 y5 y6 y7 y8 y9 y12 y13 _ _ (by omega) _ _ _ h hP hS (lv_sub hl [0, 1, 2, 3, 4, 5, 6, 7, 8, 9, 12, 13] rfl)
        · rw [if_pos g] at h
          refine lv_iload hx hb dL_law_428 (lv_at hl 10 rfl) ?_
          refine lv_if_le (tgt := 458) hx hb dL_law_430 (by decide) (fun g => ?_) (fun g => ?_)
          · rw [if_pos g] at h
            exact j458 c0_0 c1_0 y3 y4 y5 y6 y7 y8 y9 y12 y13 _ _ (by omega) _ _ _ h hP hS (lv_sub hl [0, 1, 2, 3, 4, 5, 6, 7, 8, 9, 12, 13] rfl)
          · rw [if_neg g] at h
            refine lv_aload_n hx hb dL_law_433 rfl (lv_at hl 1 rfl) ?_
            refine lv_iload hx hb dL_law_434 (lv_at hl 9 rfl) ?_
            refine lv_iload hx hb dL_law_436 (lv_at hl 11 rfl) ?_
            refine lv_iconst (v := (1 : Int32)) hx hb dL_law_438 (by decide) ?_
            refine lv_iload hx hb dL_law_439 (lv_at hl 6 rfl) ?_
            refine lv_iconst (v := (1 : Int32)) hx hb dL_law_441 (by decide) ?_
            refine lv_ishr hx hb dL_law_442 ?_
            refine lv_sipush (v := (250 : Int32)) hx hb dL_law_443 (by decide) ?_
            obtain ⟨q76, h75, h⟩ := Option.bind_eq_some_iff.mp h
            refine kciA (va_runS (As := [.int (y6 >>> ((1 : Int32) &&& 31)), .int (250 : Int32)]) (rest := [.int (1 : Int32), .int y11, .int y9, .ref aV]) ⟨hx, hb, hml, hown, hts⟩ (kL_low l D cI cC cS lo (aW D cI cC cS lo aV c0_0 (wAR cI bW 2 c1_0)) (y6 >>> ((1 : Int32) &&& 31)) (250 : Int32) h75) (cwS 2 hts gL_law_L_low rfl rfl rfl (by decide +kernel) ⟨Nat.le_of_ble_eq_true rfl, Nat.le_of_ble_eq_true rfl⟩) (kpreA hP hK hN (Nat.le_trans hz hS.1)) rfl rfl hl.1 rfl (lv_room (Nat.le_of_ble_eq_true rfl)) dL_law_446 ⟨lw_ob (n := 1) (by omega) rfl, lw_ob (n := 4) (by omega) rfl⟩) hS (fun H locs hP hS => ?_)
            refine lv_iadd hx hb dL_law_449 ?_
            obtain ⟨q78, h77, h⟩ := Option.bind_eq_some_iff.mp h
            refine kciA (va_runS (As := [.ref aV, .int y9, .int y11, .int ((1 : Int32) + q76)]) (rest := []) ⟨hx, hb, hml, hown, hts⟩ (kL_splits l D cI cC cS lo aV c0_0 (wAR cI bW 2 c1_0) y9 y11 ((1 : Int32) + q76) h77) (cwS 4 hts gL_law_L_splits rfl rfl rfl (by decide +kernel) ⟨Nat.le_of_ble_eq_true rfl, Nat.le_of_ble_eq_true rfl⟩) (kpreA hP hK hN (Nat.le_trans hz hS.1)) rfl rfl hl.1 rfl (lv_room (Nat.le_of_ble_eq_true rfl)) dL_law_450 ⟨lw_ob (n := 1) (by omega) rfl, lw_ob (n := 4) (by omega) rfl⟩) hS (fun H locs hP hS => ?_)
            refine lv_if_ne (tgt := 800) hx hb dL_law_453 (by decide) (fun g => ?_) (fun g => ?_)
            · rw [if_neg g] at h
              exact j800 q78.2 c1_0 y3 y4 y5 _ _ (by omega) _ _ _ h hP hS (lv_sub hl [0, 1, 2, 3, 4, 5] rfl)
            · rw [if_pos g] at h
              refine lv_iconst (v := (0 : Int32)) hx hb dL_law_456 (by decide) ?_
              exact absurd (Option.some.inj h) (by decide)
      have j398 : ∀ (c0_0 : Sg) (c1_0 : (Nat → Int32)) (y3 : Int32) (y4 : Int32) (y5 : Int32) (y6 : Int32) (y7 : Int32) (y8 : Int32) (y9 : Int32) (y10 : Int32) (y11 : Int32) (y12 : Int32) (y13 : Int32) (u v : Nat) (hu : u + (nL42 + 1) ≤ 1000 ∧ v + 4 * (nL42 + 1) ≤ 20000) (H : Heap) (locs : List Loc) (ls : Array Slot), pL_law_j398 xs L (pL_law_L42 xs L nL42) c0_0 c1_0 y3 y4 y5 y6 y7 y8 y9 y10 y11 y12 y13 = some 1 → (aW D cI cC cS lo aV c0_0 (wAR cI bW 2 c1_0)) H → va_S (fun q => lo ≤ q) s.heap H locs → lv_has ls 17 [(0, .ref b), (1, .ref aV), (2, .ref bW), (3, .int y3), (4, .int y4), (5, .int y5), (6, .int y6), (7, .int y7), (8, .int y8), (9, .int y9), (10, .int y10), (11, .int y11), (12, .int y12), (13, .int y13)] → W p l e room_1 s m #[Value.ref b] below meth c H locs u v (lw_Z below #[Value.ref b] s) (F0 m 398 ls []) := by
        skip
        intro c0_0 c1_0 y3 y4 y5 y6 y7 y8 y9 y10 y11 y12 y13 u v hu H locs ls h hP hS hl
        unfold pL_law_j398 at h
        refine lv_iload hx hb dL_law_398 (lv_at hl 8 rfl) ?_
        refine lv_iconst (v := (2 : Int32)) hx hb dL_law_400 (by decide) ?_
        refine lv_icmp_ne (tgt := 422) hx hb dL_law_401 (by decide) (fun g => ?_) (fun g => ?_)
        · rw [if_neg g] at h
          exact j422 c0_0 c1_0 y3 y4 y5 y6 y7 y8 y9 y10 y11 y12 y13 _ _ (by omega) _ _ _ h hP hS (lv_sub hl [0, 1, 2, 3, 4, 5, 6, 7, 8, 9, 10, 11, 12, 13] rfl)
        · rw [if_pos g] at h
          refine lv_iload hx hb dL_law_404 (lv_at hl 10 rfl) ?_
          refine lv_if_le (tgt := 422) hx hb dL_law_406 (by decide) (fun g => ?_) (fun g => ?_)
          · rw [if_pos g] at h
            exact j422 c0_0 c1_0 y3 y4 y5 y6 y7 y8 y9 y10 y11 y12 y13 _ _ (by omega) _ _ _ h hP hS (lv_sub hl [0, 1, 2, 3, 4, 5, 6, 7, 8, 9, 10, 11, 12, 13] rfl)
          · rw [if_neg g] at h
            refine lv_aload_n hx hb dL_law_409 rfl (lv_at hl 1 rfl) ?_
            refine lv_iload hx hb dL_law_410 (lv_at hl 9 rfl) ?_
            refine lv_iload hx hb dL_law_412 (lv_at hl 11 rfl) ?_
            obtain ⟨q80, h79, h⟩ := Option.bind_eq_some_iff.mp h
            refine kciA (va_runS (As := [.ref aV, .int y9, .int y11]) (rest := []) ⟨hx, hb, hml, hown, hts⟩ (kL_joins l D cI cC cS lo aV c0_0 (wAR cI bW 2 c1_0) y9 y11 h79) (cwS 3 hts gL_law_L_joins rfl rfl rfl (by decide +kernel) ⟨Nat.le_of_ble_eq_true rfl, Nat.le_of_ble_eq_true rfl⟩) (kpreA hP hK hN (Nat.le_trans hz hS.1)) rfl rfl hl.1 rfl (lv_room (Nat.le_of_ble_eq_true rfl)) dL_law_414 ⟨lw_ob (n := 1) (by omega) rfl, lw_ob (n := 4) (by omega) rfl⟩) hS (fun H locs hP hS => ?_)
            refine lv_if_ne (tgt := 800) hx hb dL_law_417 (by decide) (fun g => ?_) (fun g => ?_)
            · rw [if_neg g] at h
              exact j800 q80.2 c1_0 y3 y4 y5 _ _ (by omega) _ _ _ h hP hS (lv_sub hl [0, 1, 2, 3, 4, 5] rfl)
            · rw [if_pos g] at h
              refine lv_iconst (v := (0 : Int32)) hx hb dL_law_420 (by decide) ?_
              exact absurd (Option.some.inj h) (by decide)
      have j261 : ∀ (c0_0 : Sg) (c1_0 : (Nat → Int32)) (y3 : Int32) (y4 : Int32) (y5 : Int32) (t0 : Int32) (t1 : Int32) (u v : Nat) (hu : u + (nL42 + 1) ≤ 1000 ∧ v + 4 * (nL42 + 1) ≤ 20000) (H : Heap) (locs : List Loc) (ls : Array Slot), pL_law_j261 xs L (pL_law_L42 xs L nL42) c0_0 c1_0 y3 y4 y5 t0 t1 = some 1 → (aW D cI cC cS lo aV c0_0 (wAR cI bW 2 c1_0)) H → va_S (fun q => lo ≤ q) s.heap H locs → lv_has ls 17 [(0, .ref b), (1, .ref aV), (2, .ref bW), (3, .int y3), (4, .int y4), (5, .int y5)] → W p l e room_1 s m #[Value.ref b] below meth c H locs u v (lw_Z below #[Value.ref b] s) (F0 m 261 ls [.int t1, .int t0]) := by
        skip
        intro c0_0 c1_0 y3 y4 y5 t0 t1 u v hu H locs ls h hP hS hl
        unfold pL_law_j261 at h
        refine lv_icmp_eq (tgt := 266) hx hb dL_law_261 (by decide) (fun g => ?_) (fun g => ?_)
        · rw [if_pos g] at h
          refine lv_goto (tgt := 800) hx hb dL_law_266 (by decide) ?_
          exact j800 c0_0 c1_0 y3 y4 y5 _ _ (by omega) _ _ _ h hP hS (lv_sub hl [0, 1, 2, 3, 4, 5] rfl)
        · rw [if_neg g] at h
          refine lv_iconst (v := (0 : Int32)) hx hb dL_law_264 (by decide) ?_
          exact absurd (Option.some.inj h) (by decide)
      have j238 : ∀ (c0_0 : Sg) (c1_0 : (Nat → Int32)) (y3 : Int32) (y4 : Int32) (y5 : Int32) (y12 : Int32) (y15 : Int32) (y16 : Int32) (t0 : Int32) (t1 : Int32) (u v : Nat) (hu : u + (nL42 + 1) ≤ 1000 ∧ v + 4 * (nL42 + 1) ≤ 20000) (H : Heap) (locs : List Loc) (ls : Array Slot), pL_law_j238 xs L (pL_law_L42 xs L nL42) c0_0 c1_0 y3 y4 y5 y12 y15 y16 t0 t1 = some 1 → (aW D cI cC cS lo aV c0_0 (wAR cI bW 2 c1_0)) H → va_S (fun q => lo ≤ q) s.heap H locs → lv_has ls 17 [(0, .ref b), (1, .ref aV), (2, .ref bW), (3, .int y3), (4, .int y4), (5, .int y5), (12, .int y12), (15, .int y15), (16, .int y16)] → W p l e room_1 s m #[Value.ref b] below meth c H locs u v (lw_Z below #[Value.ref b] s) (F0 m 238 ls [.int t1, .int t0]) := by
        skip
        intro c0_0 c1_0 y3 y4 y5 y12 y15 y16 t0 t1 u v hu H locs ls h hP hS hl
        unfold pL_law_j238 at h
        refine lv_icmp_ne (tgt := 264) hx hb dL_law_238 (by decide) (fun g => ?_) (fun g => ?_)
        · rw [if_neg g] at h
          refine lv_iconst (v := (0 : Int32)) hx hb dL_law_264 (by decide) ?_
          exact absurd (Option.some.inj h) (by decide)
        · rw [if_pos g] at h
          refine lv_aload_n hx hb dL_law_241 rfl (lv_at hl 1 rfl) ?_
          refine lv_iconst (v := (4 : Int32)) hx hb dL_law_242 (by decide) ?_
          obtain ⟨q106, h105, h⟩ := Option.bind_eq_some_iff.mp h
          refine kciA (va_runV (As := [.int (4 : Int32)]) (rest := []) ⟨hx, hb, hml, hown, hts⟩ (aX9_count l D cI cC cS lo aV c0_0 (wAR cI bW 2 c1_0) (4 : Int32) h105) (cwV 1 hts gL_law_X9_count rfl rfl rfl (by decide +kernel) ⟨Nat.le_of_ble_eq_true rfl, Nat.le_of_ble_eq_true rfl⟩) (kpreVA hP hK hN (Nat.le_trans hz hS.1)) rfl rfl hl.1 rfl (lv_room (Nat.le_of_ble_eq_true rfl)) dL_law_243 ⟨lw_ob (n := 1) (by omega) rfl, lw_ob (n := 4) (by omega) rfl⟩) hS (fun H locs hP hS => ?_)
          refine lv_iload hx hb dL_law_246 (lv_at hl 8 rfl) ?_
          refine lv_if_eq (tgt := 256) hx hb dL_law_248 (by decide) (fun g => ?_) (fun g => ?_)
          · rw [if_pos g] at h
            refine lv_iload hx hb dL_law_256 (lv_at hl 6 rfl) ?_
            refine lv_iload hx hb dL_law_258 (lv_at hl 7 rfl) ?_
            refine lv_iadd hx hb dL_law_260 ?_
            exact j261 c0_0 c1_0 y3 y4 y5 q106 (y12 + y15) _ _ (by omega) _ _ _ h hP hS (lv_sub hl [0, 1, 2, 3, 4, 5] rfl)
          · rw [if_neg g] at h
            refine lv_iload hx hb dL_law_251 (lv_at hl 6 rfl) ?_
            refine lv_goto (tgt := 261) hx hb dL_law_253 (by decide) ?_
            exact j261 c0_0 c1_0 y3 y4 y5 q106 y12 _ _ (by omega) _ _ _ h hP hS (lv_sub hl [0, 1, 2, 3, 4, 5] rfl)
      have j202 : ∀ (c0_0 : Sg) (c1_0 : (Nat → Int32)) (y3 : Int32) (y4 : Int32) (y5 : Int32) (y7 : Int32) (y9 : Int32) (y12 : Int32) (y14 : Int32) (y15 : Int32) (t0 : Int32) (u v : Nat) (hu : u + (nL42 + 1) ≤ 1000 ∧ v + 4 * (nL42 + 1) ≤ 20000) (H : Heap) (locs : List Loc) (ls : Array Slot), pL_law_j202 xs L (pL_law_L42 xs L nL42) c0_0 c1_0 y3 y4 y5 y7 y9 y12 y14 y15 t0 = some 1 → (aW D cI cC cS lo aV c0_0 (wAR cI bW 2 c1_0)) H → va_S (fun q => lo ≤ q) s.heap H locs → lv_has ls 17 [(0, .ref b), (1, .ref aV), (2, .ref bW), (3, .int y3), (4, .int y4), (5, .int y5), (7, .int y7), (9, .int y9), (12, .int y12), (14, .int y14), (15, .int y15)] → W p l e room_1 s m #[Value.ref b] below meth c H locs u v (lw_Z below #[Value.ref b] s) (F0 m 202 ls [.int t0]) := by
        skip
        intro c0_0 c1_0 y3 y4 y5 y7 y9 y12 y14 y15 t0 u v hu H locs ls h hP hS hl
        unfold pL_law_j202 at h
        refine lv_istore (lv' := [(16, .int t0), (0, .ref b), (1, .ref aV), (2, .ref bW), (3, .int y3), (4, .int y4), (5, .int y5), (7, .int y7), (9, .int y9), (12, .int y12), (14, .int y14), (15, .int y15)]) hx hb dL_law_202 hl (by decide) rfl (fun ls hl => ?_)
        refine lv_aload_n hx hb dL_law_204 rfl (lv_at hl 2 rfl) ?_
        refine lv_iload hx hb dL_law_205 (lv_at hl 8 rfl) ?_
        refine lv_iload hx hb dL_law_207 (lv_at hl 11 rfl) ?_
        refine lv_iconst (v := (1 : Int32)) hx hb dL_law_209 (by decide) ?_
        refine lv_iload hx hb dL_law_210 (lv_at hl 7 rfl) ?_
        refine lv_iconst (v := (4 : Int32)) hx hb dL_law_212 (by decide) ?_
        refine lv_ishr hx hb dL_law_213 ?_
        refine lv_sipush (v := (200 : Int32)) hx hb dL_law_214 (by decide) ?_
        obtain ⟨q102, h101, h⟩ := Option.bind_eq_some_iff.mp h
        refine kciA (va_runS (As := [.int (y7 >>> ((4 : Int32) &&& 31)), .int (200 : Int32)]) (rest := [.int (1 : Int32), .int y15, .int y9, .ref aV]) ⟨hx, hb, hml, hown, hts⟩ (kL_low l D cI cC cS lo (aW D cI cC cS lo aV c0_0 (wAR cI bW 2 c1_0)) (y7 >>> ((4 : Int32) &&& 31)) (200 : Int32) h101) (cwS 2 hts gL_law_L_low rfl rfl rfl (by decide +kernel) ⟨Nat.le_of_ble_eq_true rfl, Nat.le_of_ble_eq_true rfl⟩) (kpreA hP hK hN (Nat.le_trans hz hS.1)) rfl rfl hl.1 rfl (lv_room (Nat.le_of_ble_eq_true rfl)) dL_law_217 ⟨lw_ob (n := 1) (by omega) rfl, lw_ob (n := 4) (by omega) rfl⟩) hS (fun H locs hP hS => ?_)
        refine lv_iadd hx hb dL_law_220 ?_
        obtain ⟨q104, h103, h⟩ := Option.bind_eq_some_iff.mp h
        refine kciA (va_runV (As := [.int y9, .int y15, .int ((1 : Int32) + q102)]) (rest := []) ⟨hx, hb, hml, hown, hts⟩ (aX9_addChapter l D cI cC cS lo aV c0_0 (wAR cI bW 2 c1_0) y9 y15 ((1 : Int32) + q102) h103) (cwV 3 hts gL_law_X9_addChapter rfl rfl rfl (by decide +kernel) ⟨Nat.le_of_ble_eq_true rfl, Nat.le_of_ble_eq_true rfl⟩) (kpreVA hP hK hN (Nat.le_trans hz hS.1)) rfl rfl hl.1 rfl (lv_room (Nat.le_of_ble_eq_true rfl)) dL_law_221 ⟨lw_ob (n := 1) (by omega) rfl, lw_ob (n := 4) (by omega) rfl⟩) hS (fun H locs hP hS => ?_)
        refine lv_iload hx hb dL_law_224 (lv_at hl 0 rfl) ?_
        refine lv_if_eq (tgt := 234) hx hb dL_law_226 (by decide) (fun g => ?_) (fun g => ?_)
        · rw [if_pos g] at h
          refine lv_iload hx hb dL_law_234 (lv_at hl 10 rfl) ?_
          refine lv_iconst (v := (1 : Int32)) hx hb dL_law_236 (by decide) ?_
          refine lv_iadd hx hb dL_law_237 ?_
          exact j238 q104.2 c1_0 y3 y4 y5 y12 y15 t0 q104.1 (y14 + (1 : Int32)) _ _ (by omega) _ _ _ h hP hS (lv_sub hl [1, 2, 3, 4, 5, 6, 9, 11, 0] rfl)
        · rw [if_neg g] at h
          refine lv_bipush (v := (-3 : Int32)) hx hb dL_law_229 (by decide) ?_
          refine lv_goto (tgt := 238) hx hb dL_law_231 (by decide) ?_
          exact j238 q104.2 c1_0 y3 y4 y5 y12 y15 t0 q104.1 (-3 : Int32) _ _ (by omega) _ _ _ h hP hS (lv_sub hl [1, 2, 3, 4, 5, 6, 9, 11, 0] rfl)
      have j197 : ∀ (c0_0 : Sg) (c1_0 : (Nat → Int32)) (y3 : Int32) (y4 : Int32) (y5 : Int32) (y7 : Int32) (y9 : Int32) (y12 : Int32) (y14 : Int32) (y15 : Int32) (u v : Nat) (hu : u + (nL42 + 1) ≤ 1000 ∧ v + 4 * (nL42 + 1) ≤ 20000) (H : Heap) (locs : List Loc) (ls : Array Slot), pL_law_j197 xs L (pL_law_L42 xs L nL42) c0_0 c1_0 y3 y4 y5 y7 y9 y12 y14 y15 = some 1 → (aW D cI cC cS lo aV c0_0 (wAR cI bW 2 c1_0)) H → va_S (fun q => lo ≤ q) s.heap H locs → lv_has ls 17 [(0, .ref b), (1, .ref aV), (2, .ref bW), (3, .int y3), (4, .int y4), (5, .int y5), (7, .int y7), (9, .int y9), (12, .int y12), (14, .int y14), (15, .int y15)] → W p l e room_1 s m #[Value.ref b] below meth c H locs u v (lw_Z below #[Value.ref b] s) (F0 m 197 ls []) := by
        skip
        intro c0_0 c1_0 y3 y4 y5 y7 y9 y12 y14 y15 u v hu H locs ls h hP hS hl
        unfold pL_law_j197 at h
        refine lv_iconst (v := (1 : Int32)) hx hb dL_law_197 (by decide) ?_
        refine lv_goto (tgt := 202) hx hb dL_law_198 (by decide) ?_
        exact j202 c0_0 c1_0 y3 y4 y5 y7 y9 y12 y14 y15 (1 : Int32) _ _ (by omega) _ _ _ h hP hS (lv_sub hl [0, 1, 2, 3, 4, 5, 6, 7, 8, 9, 10] rfl)
      have j155 : ∀ (c0_0 : Sg) (c1_0 : (Nat → Int32)) (y3 : Int32) (y4 : Int32) (y5 : Int32) (y6 : Int32) (y7 : Int32) (y8 : Int32) (y9 : Int32) (y10 : Int32) (y11 : Int32) (y12 : Int32) (t0 : Int32) (u v : Nat) (hu : u + (nL42 + 1) ≤ 1000 ∧ v + 4 * (nL42 + 1) ≤ 20000) (H : Heap) (locs : List Loc) (ls : Array Slot), pL_law_j155 xs L (pL_law_L42 xs L nL42) c0_0 c1_0 y3 y4 y5 y6 y7 y8 y9 y10 y11 y12 t0 = some 1 → (aW D cI cC cS lo aV c0_0 (wAR cI bW 2 c1_0)) H → va_S (fun q => lo ≤ q) s.heap H locs → lv_has ls 17 [(0, .ref b), (1, .ref aV), (2, .ref bW), (3, .int y3), (4, .int y4), (5, .int y5), (6, .int y6), (7, .int y7), (8, .int y8), (9, .int y9), (10, .int y10), (11, .int y11), (12, .int y12)] → W p l e room_1 s m #[Value.ref b] below meth c H locs u v (lw_Z below #[Value.ref b] s) (F0 m 155 ls [.int t0]) := by
        skip
        intro c0_0 c1_0 y3 y4 y5 y6 y7 y8 y9 y10 y11 y12 t0 u v hu H locs ls h hP hS hl
        unfold pL_law_j155 at h
        refine lv_istore (lv' := [(13, .int t0), (0, .ref b), (1, .ref aV), (2, .ref bW), (3, .int y3), (4, .int y4), (5, .int y5), (6, .int y6), (7, .int y7), (8, .int y8), (9, .int y9), (10, .int y10), (11, .int y11), (12, .int y12)]) hx hb dL_law_155 hl (by decide) rfl (fun ls hl => ?_)
        refine lv_iload hx hb dL_law_157 (lv_at hl 9 rfl) ?_
        refine lv_if_ne (tgt := 269) hx hb dL_law_159 (by decide) (fun g => ?_) (fun g => ?_)
        · rw [if_neg g] at h
          refine lv_iload hx hb dL_law_269 (lv_at hl 9 rfl) ?_
          refine lv_iconst (v := (1 : Int32)) hx hb dL_law_271 (by decide) ?_
          refine lv_icmp_ne (tgt := 398) hx hb dL_law_272 (by decide) (fun g => ?_) (fun g => ?_)
          · rw [if_neg g] at h
            exact j398 c0_0 c1_0 y3 y4 y5 y6 y7 y8 y9 y10 y11 y12 t0 _ _ (by omega) _ _ _ h hP hS (lv_sub hl [1, 2, 3, 4, 5, 6, 7, 8, 9, 10, 11, 12, 13, 0] rfl)
          · rw [if_pos g] at h
            refine lv_iload hx hb dL_law_275 (lv_at hl 11 rfl) ?_
            refine lv_if_le (tgt := 398) hx hb dL_law_277 (by decide) (fun g => ?_) (fun g => ?_)
            · rw [if_pos g] at h
              exact j398 c0_0 c1_0 y3 y4 y5 y6 y7 y8 y9 y10 y11 y12 t0 _ _ (by omega) _ _ _ h hP hS (lv_sub hl [1, 2, 3, 4, 5, 6, 7, 8, 9, 10, 11, 12, 13, 0] rfl)
            · rw [if_neg g] at h
              refine lv_aload_n hx hb dL_law_280 rfl (lv_at hl 2 rfl) ?_
              refine lv_iload hx hb dL_law_281 (lv_at hl 10 rfl) ?_
              refine lv_iload hx hb dL_law_283 (lv_at hl 12 rfl) ?_
              refine lv_iconst (v := (2 : Int32)) hx hb dL_law_285 (by decide) ?_
              obtain ⟨q82, h81, h⟩ := Option.bind_eq_some_iff.mp h
              refine kciA (va_runV (As := [.int y9, .int y11, .int (2 : Int32)]) (rest := []) ⟨hx, hb, hml, hown, hts⟩ (aX9_verse l D cI cC cS lo aV c0_0 (wAR cI bW 2 c1_0) y9 y11 (2 : Int32) h81) (cwV 3 hts gL_law_X9_verse rfl rfl rfl (by decide +kernel) ⟨Nat.le_of_ble_eq_true rfl, Nat.le_of_ble_eq_true rfl⟩) (kpreVA hP hK hN (Nat.le_trans hz hS.1)) rfl rfl hl.1 rfl (lv_room (Nat.le_of_ble_eq_true rfl)) dL_law_286 ⟨lw_ob (n := 1) (by omega) rfl, lw_ob (n := 4) (by omega) rfl⟩) hS (fun H locs hP hS => ?_)
              refine lv_istore (lv' := [(14, .int q82), (13, .int t0), (0, .ref b), (1, .ref aV), (2, .ref bW), (3, .int y3), (4, .int y4), (5, .int y5), (6, .int y6), (7, .int y7), (8, .int y8), (9, .int y9), (10, .int y10), (11, .int y11), (12, .int y12)]) hx hb dL_law_289 hl (by decide) rfl (fun ls hl => ?_)
              refine lv_iconst (v := (1 : Int32)) hx hb dL_law_291 (by decide) ?_
              refine lv_iload hx hb dL_law_292 (lv_at hl 8 rfl) ?_
              refine lv_iconst (v := (1 : Int32)) hx hb dL_law_294 (by decide) ?_
              refine lv_ishr hx hb dL_law_295 ?_
              refine lv_sipush (v := (600 : Int32)) hx hb dL_law_296 (by decide) ?_
              obtain ⟨q84, h83, h⟩ := Option.bind_eq_some_iff.mp h
              refine kciA (va_runS (As := [.int (y6 >>> ((1 : Int32) &&& 31)), .int (600 : Int32)]) (rest := [.int (1 : Int32)]) ⟨hx, hb, hml, hown, hts⟩ (kL_low l D cI cC cS lo (aW D cI cC cS lo aV c0_0 (wAR cI bW 2 c1_0)) (y6 >>> ((1 : Int32) &&& 31)) (600 : Int32) h83) (cwS 2 hts gL_law_L_low rfl rfl rfl (by decide +kernel) ⟨Nat.le_of_ble_eq_true rfl, Nat.le_of_ble_eq_true rfl⟩) (kpreA hP hK hN (Nat.le_trans hz hS.1)) rfl rfl hl.1 rfl (lv_room (Nat.le_of_ble_eq_true rfl)) dL_law_299 ⟨lw_ob (n := 1) (by omega) rfl, lw_ob (n := 4) (by omega) rfl⟩) hS (fun H locs hP hS => ?_)
              refine lv_iadd hx hb dL_law_302 ?_
              refine lv_istore (lv' := [(15, .int ((1 : Int32) + q84)), (14, .int q82), (13, .int t0), (0, .ref b), (1, .ref aV), (2, .ref bW), (3, .int y3), (4, .int y4), (5, .int y5), (6, .int y6), (7, .int y7), (8, .int y8), (9, .int y9), (10, .int y10), (11, .int y11), (12, .int y12)]) hx hb dL_law_303 hl (by decide) rfl (fun ls hl => ?_)
              refine lv_iload hx hb dL_law_305 (lv_at hl 10 rfl) ?_
              refine lv_bipush (v := (8 : Int32)) hx hb dL_law_307 (by decide) ?_
              refine lv_ishr hx hb dL_law_309 ?_
              refine lv_bipush (v := (11 : Int32)) hx hb dL_law_310 (by decide) ?_
              obtain ⟨q86, h85, h⟩ := Option.bind_eq_some_iff.mp h
              refine kciA (va_runS (As := [.int (y7 >>> ((8 : Int32) &&& 31)), .int (11 : Int32)]) (rest := []) ⟨hx, hb, hml, hown, hts⟩ (kL_low l D cI cC cS lo (aW D cI cC cS lo aV c0_0 (wAR cI bW 2 c1_0)) (y7 >>> ((8 : Int32) &&& 31)) (11 : Int32) h85) (cwS 2 hts gL_law_L_low rfl rfl rfl (by decide +kernel) ⟨Nat.le_of_ble_eq_true rfl, Nat.le_of_ble_eq_true rfl⟩) (kpreA hP hK hN (Nat.le_trans hz hS.1)) rfl rfl hl.1 rfl (lv_room (Nat.le_of_ble_eq_true rfl)) dL_law_312 ⟨lw_ob (n := 1) (by omega) rfl, lw_ob (n := 4) (by omega) rfl⟩) hS (fun H locs hP hS => ?_)
              refine lv_istore (lv' := [(16, .int q86), (15, .int ((1 : Int32) + q84)), (14, .int q82), (13, .int t0), (0, .ref b), (1, .ref aV), (2, .ref bW), (3, .int y3), (4, .int y4), (5, .int y5), (6, .int y6), (7, .int y7), (8, .int y8), (9, .int y9), (10, .int y10), (11, .int y11), (12, .int y12)]) hx hb dL_law_315 hl (by decide) rfl (fun ls hl => ?_)
              refine lv_aload_n hx hb dL_law_317 rfl (lv_at hl 5 rfl) ?_
              refine lv_iload hx hb dL_law_318 (lv_at hl 13 rfl) ?_
              refine lv_iload hx hb dL_law_320 (lv_at hl 15 rfl) ?_
              refine lv_iload hx hb dL_law_322 (lv_at hl 1 rfl) ?_
              refine lv_iload hx hb dL_law_324 (lv_at hl 0 rfl) ?_
              obtain ⟨q88, h87, h⟩ := Option.bind_eq_some_iff.mp h
              refine kciA (va_runV (As := [.int y9, .int y11, .int ((1 : Int32) + q84), .int q86]) (rest := []) ⟨hx, hb, hml, hown, hts⟩ (aX9_setVerse l D cI cC cS lo aV c0_0 (wAR cI bW 2 c1_0) y9 y11 ((1 : Int32) + q84) q86 h87) (cwV 4 hts gL_law_X9_setVerse rfl rfl rfl (by decide +kernel) ⟨Nat.le_of_ble_eq_true rfl, Nat.le_of_ble_eq_true rfl⟩) (kpreVA hP hK hN (Nat.le_trans hz hS.1)) rfl rfl hl.1 rfl (lv_room (Nat.le_of_ble_eq_true rfl)) dL_law_326 ⟨lw_ob (n := 1) (by omega) rfl, lw_ob (n := 4) (by omega) rfl⟩) hS (fun H locs hP hS => ?_)
              refine lv_iload hx hb dL_law_329 (lv_at hl 2 rfl) ?_
              refine lv_icmp_ne (tgt := 393) hx hb dL_law_331 (by decide) (fun g => ?_) (fun g => ?_)
              · rw [if_neg g] at h
                refine lv_iconst (v := (0 : Int32)) hx hb dL_law_393 (by decide) ?_
                exact absurd (Option.some.inj h) (by decide)
              · rw [if_pos g] at h
                refine lv_aload_n hx hb dL_law_334 rfl (lv_at hl 5 rfl) ?_
                refine lv_iload hx hb dL_law_335 (lv_at hl 13 rfl) ?_
                refine lv_iload hx hb dL_law_337 (lv_at hl 15 rfl) ?_
                refine lv_iconst (v := (2 : Int32)) hx hb dL_law_339 (by decide) ?_
                obtain ⟨q90, h89, h⟩ := Option.bind_eq_some_iff.mp h
                refine kciA (va_runV (As := [.int y9, .int y11, .int (2 : Int32)]) (rest := []) ⟨hx, hb, hml, hown, hts⟩ (aX9_verse l D cI cC cS lo aV q88.2 (wAR cI bW 2 c1_0) y9 y11 (2 : Int32) h89) (cwV 3 hts gL_law_X9_verse rfl rfl rfl (by decide +kernel) ⟨Nat.le_of_ble_eq_true rfl, Nat.le_of_ble_eq_true rfl⟩) (kpreVA hP hK hN (Nat.le_trans hz hS.1)) rfl rfl hl.1 rfl (lv_room (Nat.le_of_ble_eq_true rfl)) dL_law_340 ⟨lw_ob (n := 1) (by omega) rfl, lw_ob (n := 4) (by omega) rfl⟩) hS (fun H locs hP hS => ?_)
                refine lv_iload hx hb dL_law_343 (lv_at hl 1 rfl) ?_
                refine lv_icmp_ne (tgt := 393) hx hb dL_law_345 (by decide) (fun g => ?_) (fun g => ?_)
                · rw [if_neg g] at h
                  refine lv_iconst (v := (0 : Int32)) hx hb dL_law_393 (by decide) ?_
                  exact absurd (Option.some.inj h) (by decide)
                · rw [if_pos g] at h
                  refine lv_aload_n hx hb dL_law_348 rfl (lv_at hl 5 rfl) ?_
                  refine lv_iload hx hb dL_law_349 (lv_at hl 13 rfl) ?_
                  refine lv_iload hx hb dL_law_351 (lv_at hl 15 rfl) ?_
                  refine lv_iconst (v := (3 : Int32)) hx hb dL_law_353 (by decide) ?_
                  obtain ⟨q92, h91, h⟩ := Option.bind_eq_some_iff.mp h
                  refine kciA (va_runV (As := [.int y9, .int y11, .int (3 : Int32)]) (rest := []) ⟨hx, hb, hml, hown, hts⟩ (aX9_verse l D cI cC cS lo aV q88.2 (wAR cI bW 2 c1_0) y9 y11 (3 : Int32) h91) (cwV 3 hts gL_law_X9_verse rfl rfl rfl (by decide +kernel) ⟨Nat.le_of_ble_eq_true rfl, Nat.le_of_ble_eq_true rfl⟩) (kpreVA hP hK hN (Nat.le_trans hz hS.1)) rfl rfl hl.1 rfl (lv_room (Nat.le_of_ble_eq_true rfl)) dL_law_354 ⟨lw_ob (n := 1) (by omega) rfl, lw_ob (n := 4) (by omega) rfl⟩) hS (fun H locs hP hS => ?_)
                  refine lv_iload hx hb dL_law_357 (lv_at hl 0 rfl) ?_
                  refine lv_icmp_ne (tgt := 393) hx hb dL_law_359 (by decide) (fun g => ?_) (fun g => ?_)
                  · rw [if_neg g] at h
                    refine lv_iconst (v := (0 : Int32)) hx hb dL_law_393 (by decide) ?_
                    exact absurd (Option.some.inj h) (by decide)
                  · rw [if_pos g] at h
                    refine lv_aload_n hx hb dL_law_362 rfl (lv_at hl 5 rfl) ?_
                    refine lv_iload hx hb dL_law_363 (lv_at hl 13 rfl) ?_
                    refine lv_iload hx hb dL_law_365 (lv_at hl 15 rfl) ?_
                    refine lv_iconst (v := (0 : Int32)) hx hb dL_law_367 (by decide) ?_
                    refine lv_iconst (v := (0 : Int32)) hx hb dL_law_368 (by decide) ?_
                    obtain ⟨q94, h93, h⟩ := Option.bind_eq_some_iff.mp h
                    refine kciA (va_runV (As := [.int y9, .int y11, .int (0 : Int32), .int (0 : Int32)]) (rest := []) ⟨hx, hb, hml, hown, hts⟩ (aX9_setVerse l D cI cC cS lo aV q88.2 (wAR cI bW 2 c1_0) y9 y11 (0 : Int32) (0 : Int32) h93) (cwV 4 hts gL_law_X9_setVerse rfl rfl rfl (by decide +kernel) ⟨Nat.le_of_ble_eq_true rfl, Nat.le_of_ble_eq_true rfl⟩) (kpreVA hP hK hN (Nat.le_trans hz hS.1)) rfl rfl hl.1 rfl (lv_room (Nat.le_of_ble_eq_true rfl)) dL_law_369 ⟨lw_ob (n := 1) (by omega) rfl, lw_ob (n := 4) (by omega) rfl⟩) hS (fun H locs hP hS => ?_)
                    refine lv_bipush (v := (-2 : Int32)) hx hb dL_law_372 (by decide) ?_
                    refine lv_icmp_ne (tgt := 393) hx hb dL_law_374 (by decide) (fun g => ?_) (fun g => ?_)
                    · rw [if_neg g] at h
                      refine lv_iconst (v := (0 : Int32)) hx hb dL_law_393 (by decide) ?_
                      exact absurd (Option.some.inj h) (by decide)
                    · rw [if_pos g] at h
                      refine lv_aload_n hx hb dL_law_377 rfl (lv_at hl 5 rfl) ?_
                      refine lv_iload hx hb dL_law_378 (lv_at hl 13 rfl) ?_
                      refine lv_iload hx hb dL_law_380 (lv_at hl 15 rfl) ?_
                      refine lv_iconst (v := (1 : Int32)) hx hb dL_law_382 (by decide) ?_
                      refine lv_bipush (v := (11 : Int32)) hx hb dL_law_383 (by decide) ?_
                      obtain ⟨q96, h95, h⟩ := Option.bind_eq_some_iff.mp h
                      refine kciA (va_runV (As := [.int y9, .int y11, .int (1 : Int32), .int (11 : Int32)]) (rest := []) ⟨hx, hb, hml, hown, hts⟩ (aX9_setVerse l D cI cC cS lo aV q94.2 (wAR cI bW 2 c1_0) y9 y11 (1 : Int32) (11 : Int32) h95) (cwV 4 hts gL_law_X9_setVerse rfl rfl rfl (by decide +kernel) ⟨Nat.le_of_ble_eq_true rfl, Nat.le_of_ble_eq_true rfl⟩) (kpreVA hP hK hN (Nat.le_trans hz hS.1)) rfl rfl hl.1 rfl (lv_room (Nat.le_of_ble_eq_true rfl)) dL_law_385 ⟨lw_ob (n := 1) (by omega) rfl, lw_ob (n := 4) (by omega) rfl⟩) hS (fun H locs hP hS => ?_)
                      refine lv_bipush (v := (-2 : Int32)) hx hb dL_law_388 (by decide) ?_
                      refine lv_icmp_eq (tgt := 395) hx hb dL_law_390 (by decide) (fun g => ?_) (fun g => ?_)
                      · rw [if_pos g] at h
                        refine lv_goto (tgt := 800) hx hb dL_law_395 (by decide) ?_
                        exact j800 q96.2 c1_0 y3 y4 y5 _ _ (by omega) _ _ _ h hP hS (lv_sub hl [4, 5, 6, 7, 8, 9] rfl)
                      · rw [if_neg g] at h
                        refine lv_iconst (v := (0 : Int32)) hx hb dL_law_393 (by decide) ?_
                        exact absurd (Option.some.inj h) (by decide)
        · rw [if_pos g] at h
          refine lv_aload_n hx hb dL_law_162 rfl (lv_at hl 2 rfl) ?_
          refine lv_iload hx hb dL_law_163 (lv_at hl 10 rfl) ?_
          obtain ⟨q98, h97, h⟩ := Option.bind_eq_some_iff.mp h
          refine kciA (va_runV (As := [.int y9]) (rest := []) ⟨hx, hb, hml, hown, hts⟩ (aX9_count l D cI cC cS lo aV c0_0 (wAR cI bW 2 c1_0) y9 h97) (cwV 1 hts gL_law_X9_count rfl rfl rfl (by decide +kernel) ⟨Nat.le_of_ble_eq_true rfl, Nat.le_of_ble_eq_true rfl⟩) (kpreVA hP hK hN (Nat.le_trans hz hS.1)) rfl rfl hl.1 rfl (lv_room (Nat.le_of_ble_eq_true rfl)) dL_law_165 ⟨lw_ob (n := 1) (by omega) rfl, lw_ob (n := 4) (by omega) rfl⟩) hS (fun H locs hP hS => ?_)
          refine lv_istore (lv' := [(14, .int q98), (13, .int t0), (0, .ref b), (1, .ref aV), (2, .ref bW), (3, .int y3), (4, .int y4), (5, .int y5), (6, .int y6), (7, .int y7), (8, .int y8), (9, .int y9), (10, .int y10), (11, .int y11), (12, .int y12)]) hx hb dL_law_168 hl (by decide) rfl (fun ls hl => ?_)
          refine lv_iconst (v := (1 : Int32)) hx hb dL_law_170 (by decide) ?_
          refine lv_iload hx hb dL_law_171 (lv_at hl 9 rfl) ?_
          refine lv_iconst (v := (5 : Int32)) hx hb dL_law_173 (by decide) ?_
          obtain ⟨q100, h99, h⟩ := Option.bind_eq_some_iff.mp h
          refine kciA (va_runS (As := [.int y7, .int (5 : Int32)]) (rest := [.int (1 : Int32)]) ⟨hx, hb, hml, hown, hts⟩ (kL_low l D cI cC cS lo (aW D cI cC cS lo aV c0_0 (wAR cI bW 2 c1_0)) y7 (5 : Int32) h99) (cwS 2 hts gL_law_L_low rfl rfl rfl (by decide +kernel) ⟨Nat.le_of_ble_eq_true rfl, Nat.le_of_ble_eq_true rfl⟩) (kpreA hP hK hN (Nat.le_trans hz hS.1)) rfl rfl hl.1 rfl (lv_room (Nat.le_of_ble_eq_true rfl)) dL_law_174 ⟨lw_ob (n := 1) (by omega) rfl, lw_ob (n := 4) (by omega) rfl⟩) hS (fun H locs hP hS => ?_)
          refine lv_iadd hx hb dL_law_177 ?_
          refine lv_istore (lv' := [(15, .int ((1 : Int32) + q100)), (14, .int q98), (13, .int t0), (0, .ref b), (1, .ref aV), (2, .ref bW), (3, .int y3), (4, .int y4), (5, .int y5), (6, .int y6), (7, .int y7), (8, .int y8), (9, .int y9), (10, .int y10), (11, .int y11), (12, .int y12)]) hx hb dL_law_178 hl (by decide) rfl (fun ls hl => ?_)
          refine lv_iload hx hb dL_law_180 (lv_at hl 1 rfl) ?_
          refine lv_bipush (v := (10 : Int32)) hx hb dL_law_182 (by decide) ?_
          refine lv_icmp_eq (tgt := 197) hx hb dL_law_184 (by decide) (fun g => ?_) (fun g => ?_)
          · rw [if_pos g] at h
            exact j197 c0_0 c1_0 y3 y4 y5 y7 y9 y12 q98 ((1 : Int32) + q100) _ _ (by omega) _ _ _ h hP hS (lv_sub hl [3, 4, 5, 6, 7, 8, 10, 12, 15, 1, 0] rfl)
          · rw [if_neg g] at h
            refine lv_iload hx hb dL_law_187 (lv_at hl 13 rfl) ?_
            refine lv_iload hx hb dL_law_189 (lv_at hl 0 rfl) ?_
            refine lv_iadd hx hb dL_law_191 ?_
            refine lv_bipush (v := (60 : Int32)) hx hb dL_law_192 (by decide) ?_
            refine lv_icmp_le (tgt := 201) hx hb dL_law_194 (by decide) (fun g => ?_) (fun g => ?_)
            · rw [if_pos g] at h
              refine lv_iconst (v := (0 : Int32)) hx hb dL_law_201 (by decide) ?_
              exact j202 c0_0 c1_0 y3 y4 y5 y7 y9 y12 q98 ((1 : Int32) + q100) (0 : Int32) _ _ (by omega) _ _ _ h hP hS (lv_sub hl [3, 4, 5, 6, 7, 8, 10, 12, 15, 1, 0] rfl)
            · rw [if_neg g] at h
              exact j197 c0_0 c1_0 y3 y4 y5 y7 y9 y12 q98 ((1 : Int32) + q100) _ _ (by omega) _ _ _ h hP hS (lv_sub hl [3, 4, 5, 6, 7, 8, 10, 12, 15, 1, 0] rfl)
      have j128 : ∀ (c0_0 : Sg) (c1_0 : (Nat → Int32)) (y3 : Int32) (y4 : Int32) (y5 : Int32) (y6 : Int32) (y7 : Int32) (y8 : Int32) (y9 : Int32) (y10 : Int32) (t0 : Int32) (u v : Nat) (hu : u + (nL42 + 1) ≤ 1000 ∧ v + 4 * (nL42 + 1) ≤ 20000) (H : Heap) (locs : List Loc) (ls : Array Slot), pL_law_j128 xs L (pL_law_L42 xs L nL42) c0_0 c1_0 y3 y4 y5 y6 y7 y8 y9 y10 t0 = some 1 → (aW D cI cC cS lo aV c0_0 (wAR cI bW 2 c1_0)) H → va_S (fun q => lo ≤ q) s.heap H locs → lv_has ls 17 [(0, .ref b), (1, .ref aV), (2, .ref bW), (3, .int y3), (4, .int y4), (5, .int y5), (6, .int y6), (7, .int y7), (8, .int y8), (9, .int y9), (10, .int y10)] → W p l e room_1 s m #[Value.ref b] below meth c H locs u v (lw_Z below #[Value.ref b] s) (F0 m 128 ls [.int t0]) := by
        skip
        intro c0_0 c1_0 y3 y4 y5 y6 y7 y8 y9 y10 t0 u v hu H locs ls h hP hS hl
        unfold pL_law_j128 at h
        refine lv_istore (lv' := [(11, .int t0), (0, .ref b), (1, .ref aV), (2, .ref bW), (3, .int y3), (4, .int y4), (5, .int y5), (6, .int y6), (7, .int y7), (8, .int y8), (9, .int y9), (10, .int y10)]) hx hb dL_law_128 hl (by decide) rfl (fun ls hl => ?_)
        refine lv_aload_n hx hb dL_law_130 rfl (lv_at hl 2 rfl) ?_
        refine lv_iconst (v := (4 : Int32)) hx hb dL_law_131 (by decide) ?_
        obtain ⟨q16, h15, h⟩ := Option.bind_eq_some_iff.mp h
        refine kciA (va_runV (As := [.int (4 : Int32)]) (rest := []) ⟨hx, hb, hml, hown, hts⟩ (aX9_count l D cI cC cS lo aV c0_0 (wAR cI bW 2 c1_0) (4 : Int32) h15) (cwV 1 hts gL_law_X9_count rfl rfl rfl (by decide +kernel) ⟨Nat.le_of_ble_eq_true rfl, Nat.le_of_ble_eq_true rfl⟩) (kpreVA hP hK hN (Nat.le_trans hz hS.1)) rfl rfl hl.1 rfl (lv_room (Nat.le_of_ble_eq_true rfl)) dL_law_132 ⟨lw_ob (n := 1) (by omega) rfl, lw_ob (n := 4) (by omega) rfl⟩) hS (fun H locs hP hS => ?_)
        refine lv_istore (lv' := [(12, .int q16), (11, .int t0), (0, .ref b), (1, .ref aV), (2, .ref bW), (3, .int y3), (4, .int y4), (5, .int y5), (6, .int y6), (7, .int y7), (8, .int y8), (9, .int y9), (10, .int y10)]) hx hb dL_law_135 hl (by decide) rfl (fun ls hl => ?_)
        refine lv_iload hx hb dL_law_137 (lv_at hl 0 rfl) ?_
        refine lv_if_ne (tgt := 146) hx hb dL_law_139 (by decide) (fun g => ?_) (fun g => ?_)
        · rw [if_neg g] at h
          refine lv_iload hx hb dL_law_146 (lv_at hl 9 rfl) ?_
          refine lv_iconst (v := (3 : Int32)) hx hb dL_law_148 (by decide) ?_
          refine lv_ishr hx hb dL_law_149 ?_
          refine lv_iload hx hb dL_law_150 (lv_at hl 0 rfl) ?_
          obtain ⟨q18, h17, h⟩ := Option.bind_eq_some_iff.mp h
          refine kciA (va_runS (As := [.int (y7 >>> ((3 : Int32) &&& 31)), .int q16]) (rest := []) ⟨hx, hb, hml, hown, hts⟩ (kL_low l D cI cC cS lo (aW D cI cC cS lo aV c0_0 (wAR cI bW 2 c1_0)) (y7 >>> ((3 : Int32) &&& 31)) q16 h17) (cwS 2 hts gL_law_L_low rfl rfl rfl (by decide +kernel) ⟨Nat.le_of_ble_eq_true rfl, Nat.le_of_ble_eq_true rfl⟩) (kpreA hP hK hN (Nat.le_trans hz hS.1)) rfl rfl hl.1 rfl (lv_room (Nat.le_of_ble_eq_true rfl)) dL_law_152 ⟨lw_ob (n := 1) (by omega) rfl, lw_ob (n := 4) (by omega) rfl⟩) hS (fun H locs hP hS => ?_)
          exact j155 c0_0 c1_0 y3 y4 y5 y6 y7 y8 y9 y10 t0 q16 q18 _ _ (by omega) _ _ _ h hP hS (lv_sub hl [2, 3, 4, 5, 6, 7, 8, 9, 10, 11, 12, 1, 0] rfl)
        · rw [if_pos g] at h
          refine lv_iconst (v := (0 : Int32)) hx hb dL_law_142 (by decide) ?_
          refine lv_goto (tgt := 155) hx hb dL_law_143 (by decide) ?_
          exact j155 c0_0 c1_0 y3 y4 y5 y6 y7 y8 y9 y10 t0 q16 (0 : Int32) _ _ (by omega) _ _ _ h hP hS (lv_sub hl [2, 3, 4, 5, 6, 7, 8, 9, 10, 11, 12, 1, 0] rfl)
      have j88 : ∀ (c0_0 : Sg) (c1_0 : (Nat → Int32)) (y3 : Int32) (y4 : Int32) (y5 : Int32) (y6 : Int32) (y7 : Int32) (t0 : Int32) (u v : Nat) (hu : u + (nL42 + 1) ≤ 1000 ∧ v + 4 * (nL42 + 1) ≤ 20000) (H : Heap) (locs : List Loc) (ls : Array Slot), pL_law_j88 xs L (pL_law_L42 xs L nL42) c0_0 c1_0 y3 y4 y5 y6 y7 t0 = some 1 → (aW D cI cC cS lo aV c0_0 (wAR cI bW 2 c1_0)) H → va_S (fun q => lo ≤ q) s.heap H locs → lv_has ls 17 [(0, .ref b), (1, .ref aV), (2, .ref bW), (3, .int y3), (4, .int y4), (5, .int y5), (6, .int y6), (7, .int y7)] → W p l e room_1 s m #[Value.ref b] below meth c H locs u v (lw_Z below #[Value.ref b] s) (F0 m 88 ls [.int t0]) := by
        skip
        intro c0_0 c1_0 y3 y4 y5 y6 y7 t0 u v hu H locs ls h hP hS hl
        unfold pL_law_j88 at h
        refine lv_istore (lv' := [(8, .int t0), (0, .ref b), (1, .ref aV), (2, .ref bW), (3, .int y3), (4, .int y4), (5, .int y5), (6, .int y6), (7, .int y7)]) hx hb dL_law_88 hl (by decide) rfl (fun ls hl => ?_)
        refine lv_iload hx hb dL_law_90 (lv_at hl 7 rfl) ?_
        refine lv_iconst (v := (4 : Int32)) hx hb dL_law_92 (by decide) ?_
        refine lv_ishr hx hb dL_law_93 ?_
        refine lv_istore (lv' := [(6, .int (y6 >>> ((4 : Int32) &&& 31))), (8, .int t0), (0, .ref b), (1, .ref aV), (2, .ref bW), (3, .int y3), (4, .int y4), (5, .int y5), (7, .int y7)]) hx hb dL_law_94 hl (by decide) rfl (fun ls hl => ?_)
        refine lv_iload hx hb dL_law_96 (lv_at hl 0 rfl) ?_
        refine lv_iconst (v := (1 : Int32)) hx hb dL_law_98 (by decide) ?_
        refine lv_iand hx hb dL_law_99 ?_
        refine lv_istore (lv' := [(9, .int ((y6 >>> ((4 : Int32) &&& 31)) &&& (1 : Int32))), (6, .int (y6 >>> ((4 : Int32) &&& 31))), (8, .int t0), (0, .ref b), (1, .ref aV), (2, .ref bW), (3, .int y3), (4, .int y4), (5, .int y5), (7, .int y7)]) hx hb dL_law_100 hl (by decide) rfl (fun ls hl => ?_)
        refine lv_aload_n hx hb dL_law_102 rfl (lv_at hl 4 rfl) ?_
        refine lv_iconst (v := (2 : Int32)) hx hb dL_law_103 (by decide) ?_
        refine lv_iload hx hb dL_law_104 (lv_at hl 0 rfl) ?_
        refine lv_iadd hx hb dL_law_106 ?_
        obtain ⟨q12, h11, h⟩ := Option.bind_eq_some_iff.mp h
        refine kciA (va_runV (As := [.int ((2 : Int32) + ((y6 >>> ((4 : Int32) &&& 31)) &&& (1 : Int32)))]) (rest := []) ⟨hx, hb, hml, hown, hts⟩ (aX9_count l D cI cC cS lo aV c0_0 (wAR cI bW 2 c1_0) ((2 : Int32) + ((y6 >>> ((4 : Int32) &&& 31)) &&& (1 : Int32))) h11) (cwV 1 hts gL_law_X9_count rfl rfl rfl (by decide +kernel) ⟨Nat.le_of_ble_eq_true rfl, Nat.le_of_ble_eq_true rfl⟩) (kpreVA hP hK hN (Nat.le_trans hz hS.1)) rfl rfl hl.1 rfl (lv_room (Nat.le_of_ble_eq_true rfl)) dL_law_107 ⟨lw_ob (n := 1) (by omega) rfl, lw_ob (n := 4) (by omega) rfl⟩) hS (fun H locs hP hS => ?_)
        refine lv_istore (lv' := [(10, .int q12), (9, .int ((y6 >>> ((4 : Int32) &&& 31)) &&& (1 : Int32))), (6, .int (y6 >>> ((4 : Int32) &&& 31))), (8, .int t0), (0, .ref b), (1, .ref aV), (2, .ref bW), (3, .int y3), (4, .int y4), (5, .int y5), (7, .int y7)]) hx hb dL_law_110 hl (by decide) rfl (fun ls hl => ?_)
        refine lv_iload hx hb dL_law_112 (lv_at hl 0 rfl) ?_
        refine lv_if_ne (tgt := 121) hx hb dL_law_114 (by decide) (fun g => ?_) (fun g => ?_)
        · rw [if_neg g] at h
          refine lv_iload hx hb dL_law_121 (lv_at hl 10 rfl) ?_
          refine lv_iload hx hb dL_law_123 (lv_at hl 0 rfl) ?_
          obtain ⟨q14, h13, h⟩ := Option.bind_eq_some_iff.mp h
          refine kciA (va_runS (As := [.int y7, .int q12]) (rest := []) ⟨hx, hb, hml, hown, hts⟩ (kL_low l D cI cC cS lo (aW D cI cC cS lo aV c0_0 (wAR cI bW 2 c1_0)) y7 q12 h13) (cwS 2 hts gL_law_L_low rfl rfl rfl (by decide +kernel) ⟨Nat.le_of_ble_eq_true rfl, Nat.le_of_ble_eq_true rfl⟩) (kpreA hP hK hN (Nat.le_trans hz hS.1)) rfl rfl hl.1 rfl (lv_room (Nat.le_of_ble_eq_true rfl)) dL_law_125 ⟨lw_ob (n := 1) (by omega) rfl, lw_ob (n := 4) (by omega) rfl⟩) hS (fun H locs hP hS => ?_)
          exact j128 c0_0 c1_0 y3 y4 y5 (y6 >>> ((4 : Int32) &&& 31)) y7 t0 ((y6 >>> ((4 : Int32) &&& 31)) &&& (1 : Int32)) q12 q14 _ _ (by omega) _ _ _ h hP hS (lv_sub hl [4, 5, 6, 7, 8, 9, 2, 10, 3, 1, 0] rfl)
        · rw [if_pos g] at h
          refine lv_iconst (v := (0 : Int32)) hx hb dL_law_117 (by decide) ?_
          refine lv_goto (tgt := 128) hx hb dL_law_118 (by decide) ?_
          exact j128 c0_0 c1_0 y3 y4 y5 (y6 >>> ((4 : Int32) &&& 31)) y7 t0 ((y6 >>> ((4 : Int32) &&& 31)) &&& (1 : Int32)) q12 (0 : Int32) _ _ (by omega) _ _ _ h hP hS (lv_sub hl [4, 5, 6, 7, 8, 9, 2, 10, 3, 1, 0] rfl)
      intro c0_0 c1_0 y3 y4 y5 u v hu H locs ls h hP hS hl
      have h : pL_law_bL42 xs L (pL_law_L42 xs L nL42) c0_0 c1_0 y3 y4 y5 = some 1 := h
      unfold pL_law_bL42 at h
      refine lv_iload hx hb dL_law_42 (lv_at hl 5 rfl) ?_
      refine lv_bipush (v := (30 : Int32)) hx hb dL_law_44 (by decide) ?_
      refine lv_icmp_ge (tgt := 833) hx hb dL_law_46 (by decide) (fun g => ?_) (fun g => ?_)
      · rw [if_pos g] at h
        refine lv_aload_n hx hb dL_law_833 rfl (lv_at hl 1 rfl) ?_
        obtain ⟨q4, h3, h⟩ := Option.bind_eq_some_iff.mp h
        refine kciA (va_runS (As := [.ref aV]) (rest := []) ⟨hx, hb, hml, hown, hts⟩ (kL_errors l D cI cC cS lo aV c0_0 (wAR cI bW 2 c1_0) h3) (cwS 1 hts gL_law_L_errors rfl rfl rfl (by decide +kernel) ⟨Nat.le_of_ble_eq_true rfl, Nat.le_of_ble_eq_true rfl⟩) (kpreA hP hK hN (Nat.le_trans hz hS.1)) rfl rfl hl.1 rfl (lv_room (Nat.le_of_ble_eq_true rfl)) dL_law_834 ⟨lw_ob (n := 1) (by omega) rfl, lw_ob (n := 4) (by omega) rfl⟩) hS (fun H locs hP hS => ?_)
        have e1 : q4.1 = (1 : Int32) := Option.some.inj h
        rw [e1]
        refine va_forget (fun q hq => Nat.le_trans hlo (hS.2.2 q hq)) ?_
        refine W.widen (k := 600000) (n := 7302250) (by omega) (by omega) ?_
        exact lw_ret hx hb hr hlocks dL_law_837
      · rw [if_neg g] at h
        refine lv_aload_n hx hb dL_law_49 rfl (lv_at hl 0 rfl) ?_
        refine lv_iconst (v := (2 : Int32)) hx hb dL_law_50 (by decide) ?_
        refine lv_iload hx hb dL_law_51 (lv_at hl 5 rfl) ?_
        refine lv_imul hx hb dL_law_53 ?_
        obtain ⟨q6, h5, h⟩ := Option.bind_eq_some_iff.mp h
        refine kciA (va_runS (As := [.ref b, .int ((2 : Int32) * y5)]) (rest := []) ⟨hx, hb, hml, hown, hts⟩ (kL_cell l D cI cC cS lo (aW D cI cC cS lo aV c0_0 (wAR cI bW 2 c1_0)) b L xs ((2 : Int32) * y5) hL hlt h5) (cwS 2 hts gL_law_L_cell rfl rfl rfl (by decide +kernel) ⟨Nat.le_of_ble_eq_true rfl, Nat.le_of_ble_eq_true rfl⟩) (kpreC hX hlt hP hK hN hS hz) rfl rfl hl.1 rfl (lv_room (Nat.le_of_ble_eq_true rfl)) dL_law_54 ⟨lw_ob (n := 1) (by omega) rfl, lw_ob (n := 4) (by omega) rfl⟩) hS (fun H locs hP hS => ?_)
        refine lv_istore (lv' := [(6, .int q6), (0, .ref b), (1, .ref aV), (2, .ref bW), (3, .int y3), (4, .int y4), (5, .int y5)]) hx hb dL_law_57 hl (by decide) rfl (fun ls hl => ?_)
        refine lv_aload_n hx hb dL_law_59 rfl (lv_at hl 1 rfl) ?_
        refine lv_iconst (v := (2 : Int32)) hx hb dL_law_60 (by decide) ?_
        refine lv_iload hx hb dL_law_61 (lv_at hl 6 rfl) ?_
        refine lv_imul hx hb dL_law_63 ?_
        refine lv_iconst (v := (1 : Int32)) hx hb dL_law_64 (by decide) ?_
        refine lv_iadd hx hb dL_law_65 ?_
        obtain ⟨q8, h7, h⟩ := Option.bind_eq_some_iff.mp h
        refine kciA (va_runS (As := [.ref b, .int (((2 : Int32) * y5) + (1 : Int32))]) (rest := []) ⟨hx, hb, hml, hown, hts⟩ (kL_cell l D cI cC cS lo (aW D cI cC cS lo aV c0_0 (wAR cI bW 2 c1_0)) b L xs (((2 : Int32) * y5) + (1 : Int32)) hL hlt h7) (cwS 2 hts gL_law_L_cell rfl rfl rfl (by decide +kernel) ⟨Nat.le_of_ble_eq_true rfl, Nat.le_of_ble_eq_true rfl⟩) (kpreC hX hlt hP hK hN hS hz) rfl rfl hl.1 rfl (lv_room (Nat.le_of_ble_eq_true rfl)) dL_law_66 ⟨lw_ob (n := 1) (by omega) rfl, lw_ob (n := 4) (by omega) rfl⟩) hS (fun H locs hP hS => ?_)
        refine lv_istore (lv' := [(7, .int q8), (6, .int q6), (0, .ref b), (1, .ref aV), (2, .ref bW), (3, .int y3), (4, .int y4), (5, .int y5)]) hx hb dL_law_69 hl (by decide) rfl (fun ls hl => ?_)
        refine lv_iload hx hb dL_law_71 (lv_at hl 7 rfl) ?_
        refine lv_iconst (v := (3 : Int32)) hx hb dL_law_73 (by decide) ?_
        refine lv_icmp_ge (tgt := 81) hx hb dL_law_74 (by decide) (fun g => ?_) (fun g => ?_)
        · rw [if_pos g] at h
          refine lv_iload hx hb dL_law_81 (lv_at hl 1 rfl) ?_
          refine lv_bipush (v := (13 : Int32)) hx hb dL_law_83 (by decide) ?_
          obtain ⟨q10, h9, h⟩ := Option.bind_eq_some_iff.mp h
          refine kciA (va_runS (As := [.int q6, .int (13 : Int32)]) (rest := []) ⟨hx, hb, hml, hown, hts⟩ (kL_low l D cI cC cS lo (aW D cI cC cS lo aV c0_0 (wAR cI bW 2 c1_0)) q6 (13 : Int32) h9) (cwS 2 hts gL_law_L_low rfl rfl rfl (by decide +kernel) ⟨Nat.le_of_ble_eq_true rfl, Nat.le_of_ble_eq_true rfl⟩) (kpreA hP hK hN (Nat.le_trans hz hS.1)) rfl rfl hl.1 rfl (lv_room (Nat.le_of_ble_eq_true rfl)) dL_law_85 ⟨lw_ob (n := 1) (by omega) rfl, lw_ob (n := 4) (by omega) rfl⟩) hS (fun H locs hP hS => ?_)
          exact j88 c0_0 c1_0 y3 y4 y5 q6 q8 q10 _ _ (by omega) _ _ _ h hP hS (lv_sub hl [2, 3, 4, 5, 6, 7, 1, 0] rfl)
        · rw [if_neg g] at h
          refine lv_iconst (v := (0 : Int32)) hx hb dL_law_77 (by decide) ?_
          refine lv_goto (tgt := 88) hx hb dL_law_78 (by decide) ?_
          exact j88 c0_0 c1_0 y3 y4 y5 q6 q8 (0 : Int32) _ _ (by omega) _ _ _ h hP hS (lv_sub hl [2, 3, 4, 5, 6, 7, 1, 0] rfl)
  refine lv_astore_n (lv' := [(2, .ref bW), (1, .ref aV), (0, .ref b)]) hx hb dL_law_11 rfl hl (by decide) rfl (fun ls hl => ?_)
  refine lv_aload_n hx hb dL_law_12 rfl (lv_at hl 0 rfl) ?_
  refine lv_iconst (v := (0 : Int32)) hx hb dL_law_13 (by decide) ?_
  refine lv_bipush (v := (40 : Int32)) hx hb dL_law_14 (by decide) ?_
  obtain ⟨g, h⟩ := kif h
  refine aW_kst (X := []) hx hb hK hP hS (kin g) dL_law_16 (fun H locs hP hS => ?_)
  have hP : (aW D cI cC cS lo aV vO0 (wAR cI bW 2 (upd z0 (0 : Int32).toNatClampNeg (40 : Int32)))) H := hP
  refine lv_aload_n hx hb dL_law_17 rfl (lv_at hl 0 rfl) ?_
  refine lv_iconst (v := (1 : Int32)) hx hb dL_law_18 (by decide) ?_
  refine lv_bipush (v := (40 : Int32)) hx hb dL_law_19 (by decide) ?_
  obtain ⟨g, h⟩ := kif h
  refine aW_kst (X := []) hx hb hK hP hS (kin g) dL_law_21 (fun H locs hP hS => ?_)
  have hP : (aW D cI cC cS lo aV vO0 (wAR cI bW 2 (upd (upd z0 (0 : Int32).toNatClampNeg (40 : Int32)) (1 : Int32).toNatClampNeg (40 : Int32)))) H := hP
  refine lv_bipush (v := (40 : Int32)) hx hb dL_law_22 (by decide) ?_
  refine lv_istore_n (lv' := [(3, .int (40 : Int32)), (2, .ref bW), (1, .ref aV), (0, .ref b)]) hx hb dL_law_24 rfl hl (by decide) rfl (fun ls hl => ?_)
  refine lv_iconst (v := (2 : Int32)) hx hb dL_law_25 (by decide) ?_
  refine lv_istore (lv' := [(4, .int (2 : Int32)), (3, .int (40 : Int32)), (2, .ref bW), (1, .ref aV), (0, .ref b)]) hx hb dL_law_26 hl (by decide) rfl (fun ls hl => ?_)
  refine lv_aload_n hx hb dL_law_28 rfl (lv_at hl 3 rfl) ?_
  obtain ⟨q2, h1, h⟩ := Option.bind_eq_some_iff.mp h
  refine kciA (va_runV (As := []) (rest := []) ⟨hx, hb, hml, hown, hts⟩ (aX9_undo l D cI cC cS lo aV vO0 (wAR cI bW 2 (upd (upd z0 (0 : Int32).toNatClampNeg (40 : Int32)) (1 : Int32).toNatClampNeg (40 : Int32))) h1) (cwV 0 hts gL_law_X9_undo rfl rfl rfl (by decide +kernel) ⟨Nat.le_of_ble_eq_true rfl, Nat.le_of_ble_eq_true rfl⟩) (kpreVA hP hK hN (Nat.le_trans hz hS.1)) rfl rfl hl.1 rfl (lv_room (Nat.le_of_ble_eq_true rfl)) dL_law_29 ⟨lw_ob (n := 1) (by omega) rfl, lw_ob (n := 4) (by omega) rfl⟩) hS (fun H locs hP hS => ?_)
  refine lv_bipush (v := (-5 : Int32)) hx hb dL_law_32 (by decide) ?_
  refine lv_icmp_eq (tgt := 39) hx hb dL_law_34 (by decide) (fun g => ?_) (fun g => ?_)
  · rw [if_pos g] at h
    refine lv_iconst (v := (0 : Int32)) hx hb dL_law_39 (by decide) ?_
    refine lv_istore (lv' := [(5, .int (0 : Int32)), (4, .int (2 : Int32)), (3, .int (40 : Int32)), (2, .ref bW), (1, .ref aV), (0, .ref b)]) hx hb dL_law_40 hl (by decide) rfl (fun ls hl => ?_)
    exact L42 31 q2.2 (upd (upd z0 (0 : Int32).toNatClampNeg (40 : Int32)) (1 : Int32).toNatClampNeg (40 : Int32)) (40 : Int32) (2 : Int32) (0 : Int32) _ _ (by omega) _ _ _ h hP hS (lv_sub hl [5, 4, 3, 2, 1, 0] rfl)
  · rw [if_neg g] at h
    refine lv_iconst (v := (0 : Int32)) hx hb dL_law_37 (by decide) ?_
    exact absurd (Option.some.inj h) (by decide)
