set_option maxHeartbeats 4000000 in
set_option maxRecDepth 100000 in
/-- the law's loop: at its head, with i ints read, class and reference stand alike -/
theorem lw_loop {p : Program} {l : Launch} {e : Env} {s : State} {m : MethodId} {below : List Frame} {meth : Method} {c : Code} {D : va_G} {cI cC cS : ClassId} {aV : Nat} {aD : Nat × Nat × Nat × Nat × Nat × Nat × Nat × Nat × Nat × Nat × Nat} {b L : Nat} {xs : Nat → Int32} (hL : L ≤ 2560) (C0 : lw_At p s m meth c b L xs) (hK : va_K D vwCl (kTy cI cC cS) s) (hN : kN s) (hts1 : ∀ w ∈ wsL_law, w.before #[Value.ref b] s = true) : ∀ (n i : Nat), i ≤ L + 5 → L + 6 ≤ i + n → ∀ (H : Heap) (locs : List Loc), lwI D cI cC cS s aV aD H locs → ∀ (ls : Array Slot), lv_has ls 4 [(0, .ref b), (1, .ref aV), (2, .ref aD.1), (3, .int (nI i))] → W p l e room_1 s m #[Value.ref b] below meth c H locs 99 8985 (lw_Z below #[Value.ref b] s) (F0 m 18 ls []) := by
  obtain ⟨hx, hb, hr, hml, hown, hts, hX, hbl, hlocks, hgv⟩ := C0
  have hb : c.code = code := hb
  have hown1 : s.vm.findClass RL = some m.cls := hown
  have hbA : ¬ (fun q : Nat => s.heap.size ≤ q) b := Nat.not_le.mpr hbl
  intro n
  induction n with
  | zero => intro i h1 h2; omega
  | succ n ih =>
    intro i h1 h2 H locs hI ls hl
    have hS : va_S (fun q : Nat => s.heap.size ≤ q) s.heap H locs := hI.hS
    refine lv_iload_n hx hb dL_law_18 rfl (lv_at hl 3 rfl) ?_
    refine lv_aload_n hx hb dL_law_19 rfl (lv_at hl 0 rfl) ?_
    refine va_slen hx hb hX hbl hbA hS dL_law_20 ?_
    refine lv_iconst (v := (5 : Int32)) hx hb dL_law_21 (by decide) ?_
    refine lv_isub hx hb dL_law_22 ?_
    have hgt := lw_gt (i := i) (L := L) (by omega) hL
    refine lv_icmp_gt (tgt := 783) hx hb dL_law_23 (by decide) (fun g => ?_) (fun g => ?_)
    · refine lv_iconst (v := 1) hx hb dL_law_783 (by decide) ?_
      refine va_forget (fun q hq => hS.2.2 q hq) ?_
      refine W.widen (k := 600000) (n := 7302250) (Nat.le_of_ble_eq_true rfl) (Nat.le_of_ble_eq_true rfl) ?_
      exact lw_ret hx hb hr hlocks dL_law_784
    · have g2 : ¬ (nI L - (5 : Int32) < nI i) := g
      rw [hgt] at g2
      refine lw_step hx hb hml hown1 hts1 hX hbl hK hN hI hL (by omega) hl (fun H locs hI => ?_)
      have e5 : nI i + Int32.ofInt 5 = nI (i + 5) := nI_add i 5
      refine lv_iinc (v := nI (i + 5)) (lv' := [(3, .int (nI (i + 5))), (0, .ref b), (1, .ref aV), (2, .ref aD.1)]) hx hb dL_law_777 hl (k := 3) rfl e5 (by decide) rfl (fun ls hl => ?_)
      refine lv_goto (tgt := 18) hx hb dL_law_780 (by decide) ?_
      exact ih (i + 5) (by omega) (by omega) H locs hI ls (lv_sub hl [1, 2, 3, 0] rfl)
