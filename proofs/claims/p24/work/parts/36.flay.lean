-- out of 36.flay
-- the layout: what stands on pages. ht: heights, nt: notes of groups, ph: the height of a page
def wl (x : Int) : Int := if x = 0 then 0 else x + 1
def pgN (ht nt : Int → Int) (ph : Int) : Nat → Int × Int × Int
  | 0 => (0, 0, 0)
  | n + 1 => if (pgN ht nt ph n).1 = 0 ∨ ph < (pgN ht nt ph n).2.1 + ht (n : Int) + wl ((pgN ht nt ph n).2.2 + nt (n : Int)) then ((pgN ht nt ph n).1 + 1, ht (n : Int), nt (n : Int)) else ((pgN ht nt ph n).1, (pgN ht nt ph n).2.1 + ht (n : Int), (pgN ht nt ph n).2.2 + nt (n : Int))
-- pages, what is used of the last one, its notes, when k groups lie
def pgC (ht nt : Int → Int) (ph k : Int) : Int := (pgN ht nt ph k.toNat).1
def pgU (ht nt : Int → Int) (ph k : Int) : Int := (pgN ht nt ph k.toNat).2.1
def pgS (ht nt : Int → Int) (ph k : Int) : Int := (pgN ht nt ph k.toNat).2.2
-- the page and the line of group k
def pgP (ht nt : Int → Int) (ph k : Int) : Int := pgC ht nt ph (k + 1) - 1
def pgL (ht nt : Int → Int) (ph k : Int) : Int := pgU ht nt ph (k + 1) - ht k
theorem pg_0 (ht nt : Int → Int) (ph : Int) : pgC ht nt ph 0 = 0 ∧ pgU ht nt ph 0 = 0 ∧ pgS ht nt ph 0 = 0 := ⟨rfl, rfl, rfl⟩
theorem pg_s {ht nt : Int → Int} {ph k : Int} (h : 0 ≤ k) :
    ((pgC ht nt ph k = 0 ∨ ph < pgU ht nt ph k + ht k + wl (pgS ht nt ph k + nt k)) ∧ pgC ht nt ph (k + 1) = pgC ht nt ph k + 1 ∧ pgU ht nt ph (k + 1) = ht k ∧ pgS ht nt ph (k + 1) = nt k) ∨
    (¬ (pgC ht nt ph k = 0 ∨ ph < pgU ht nt ph k + ht k + wl (pgS ht nt ph k + nt k)) ∧ pgC ht nt ph (k + 1) = pgC ht nt ph k ∧ pgU ht nt ph (k + 1) = pgU ht nt ph k + ht k ∧ pgS ht nt ph (k + 1) = pgS ht nt ph k + nt k) := by
  obtain ⟨n, rfl⟩ : ∃ n : Nat, k = n := ⟨k.toNat, by omega⟩
  have e1 : ((n : Int) + 1).toNat = n + 1 := by omega
  have e2 : (n : Int).toNat = n := Int.toNat_natCast n
  unfold pgC pgU pgS
  rw [e1, e2]
  by_cases q : (pgN ht nt ph n).1 = 0 ∨ ph < (pgN ht nt ph n).2.1 + ht (n : Int) + wl ((pgN ht nt ph n).2.2 + nt (n : Int))
  · left
    have e : pgN ht nt ph (n + 1) = ((pgN ht nt ph n).1 + 1, ht (n : Int), nt (n : Int)) := if_pos q
    rw [e]
    exact ⟨q, rfl, rfl, rfl⟩
  · right
    have e : pgN ht nt ph (n + 1) = ((pgN ht nt ph n).1, (pgN ht nt ph n).2.1 + ht (n : Int), (pgN ht nt ph n).2.2 + nt (n : Int)) := if_neg q
    rw [e]
    exact ⟨q, rfl, rfl, rfl⟩
theorem pg_bd {ht nt : Int → Int} {ph g : Int} (hh : ∀ i, 0 ≤ i → i < g → 0 ≤ ht i ∧ ht i ≤ 1000000) (hn : ∀ i, 0 ≤ i → i < g → 0 ≤ nt i ∧ nt i ≤ 1000000) (k : Int) (h0 : 0 ≤ k) (hk : k ≤ g) : (0 ≤ pgC ht nt ph k ∧ pgC ht nt ph k ≤ k ∧ (0 < k → 1 ≤ pgC ht nt ph k)) ∧ (0 ≤ pgU ht nt ph k ∧ pgU ht nt ph k ≤ 1000000 * k) ∧ 0 ≤ pgS ht nt ph k ∧ pgS ht nt ph k ≤ 1000000 * k := by
  revert hk
  refine zind (P := fun k => k ≤ g → (0 ≤ pgC ht nt ph k ∧ pgC ht nt ph k ≤ k ∧ (0 < k → 1 ≤ pgC ht nt ph k)) ∧ (0 ≤ pgU ht nt ph k ∧ pgU ht nt ph k ≤ 1000000 * k) ∧ 0 ≤ pgS ht nt ph k ∧ pgS ht nt ph k ≤ 1000000 * k) (fun _ => ?_) (fun k hk0 ih hk => ?_) k h0
  · obtain ⟨e1, e2, e3⟩ := pg_0 ht nt ph
    omega
  · have h1 := ih (by omega)
    have h2 := hh k hk0 (by omega)
    have h3 := hn k hk0 (by omega)
    rcases pg_s (ht := ht) (nt := nt) (ph := ph) hk0 with ⟨-, e1, e2, e3⟩ | ⟨hne, e1, e2, e3⟩ <;> omega
theorem wl_bd {x : Int} (h : 0 ≤ x) : 0 ≤ wl x ∧ wl x ≤ x + 1 := by
  unfold wl
  split <;> omega
theorem f3_withRule {x : Int} (h : 0 ≤ x ∧ x ≤ 2000000000) : pX3_withRule (I x) = some (I (wl x)) := by
  unfold pX3_withRule wl
  simp (disch := omega) only [if_true, if_false, I_add, I_sub, I_mul, I_neg, I_ofNat, Option.bind_some, kIn, I_l0, I_l1, I_l2, I_l3, I_l4, I_l5, I_l6, I_l7, I_l8, I_l9, I_l10, I_l11, I_l12, I_l13, I_l40, I_l43, I_l44, I_l45, I_l48, I_l57, I_l58, I_l60, I_l61, I_l62, I_l79, I_l80, I_l100, I_l101, I_l120, I_l200, I_l201, I_l1999, I_l2000, I_l2001, I_eq]
  split <;> rfl
theorem f3_fillPages_L {hc nc ht nt : Int → Int} {ph g : Int} (hg : 0 ≤ g ∧ g ≤ 120) (hph : 0 ≤ ph ∧ ph ≤ 100000) (hh : ∀ i, 0 ≤ i → i < g → 0 ≤ ht i ∧ ht i ≤ 1000000) (hn : ∀ i, 0 ≤ i → i < g → 0 ≤ nt i ∧ nt i ≤ 1000000) (ehc : ∀ i, 0 ≤ i → i < g → hc i = ht i) (enc : ∀ i, 0 ≤ i → i < g → nc i = nt i) : ∀ (m : Nat) (pn ls : Int → Int) (c9 u s k : Int), 0 ≤ k → k ≤ g → g - k < m → (∀ j, 0 ≤ j → j < k → pn j = pgP ht nt ph j ∧ ls j = pgL ht nt ph j) → ((0 < k → c9 = pgC ht nt ph k) ∧ (k = 0 → c9 = if g = 0 then 0 else 1)) → u = pgU ht nt ph k → s = pgS ht nt ph k → ∃ pn2 ls2 : Int → Int, (∀ j, 0 ≤ j → j < g → pn2 j = pgP ht nt ph j ∧ ls2 j = pgL ht nt ph j) ∧ pX3_fillPages_L22 (I ph) (cz hc) (cz nc) (I g) m (cz pn) (cz ls) (I c9) (I u) (I s) (I k) = some (cz pn2, cz ls2, I (pgC ht nt ph g)) := by
  intro m
  induction m with
  | zero => intro pn ls c9 u s k h0 h1 h2; omega
  | succ m ih =>
    intro pn ls c9 u s k h0 h1 h2 hj hc9 hu hs
    obtain ⟨b1, b2, b3⟩ := pg_bd (ph := ph) hh hn k h0 h1
    by_cases q : k = g
    · subst q
      refine ⟨pn, ls, hj, ?_⟩
      show pX3_fillPages_bL22 _ _ _ _ _ _ _ _ _ _ _ = _
      unfold pX3_fillPages_bL22
      simp (disch := omega) only [if_true, if_false, I_add, I_sub, I_mul, I_neg, I_ofNat, Option.bind_some, kIn, I_l0, I_l1, I_l2, I_l3, I_l4, I_l5, I_l6, I_l7, I_l8, I_l9, I_l10, I_l11, I_l12, I_l13, I_l40, I_l43, I_l44, I_l45, I_l48, I_l57, I_l58, I_l60, I_l61, I_l62, I_l79, I_l80, I_l100, I_l101, I_l120, I_l200, I_l201, I_l1999, I_l2000, I_l2001, I_le, if_pos]
      by_cases q2 : k = 0
      · have := hc9.2 q2
        rw [if_pos q2] at this
        rw [this, q2]
        rfl
      · rw [hc9.1 (by omega)]
    · have h3 := hh k h0 (by omega)
      have h4 := hn k h0 (by omega)
      have h5 := ehc k h0 (by omega)
      have h6 := enc k h0 (by omega)
      obtain ⟨d1, d2, d3⟩ := pg_bd (ph := ph) hh hn (k + 1) (by omega) (by omega)
      have step : ∀ (c9b ub sb : Int), c9b = pgC ht nt ph (k + 1) → ub = pgU ht nt ph (k + 1) - ht k → sb = pgS ht nt ph (k + 1) - nt k → ∃ pn2 ls2 : Int → Int, (∀ j, 0 ≤ j → j < g → pn2 j = pgP ht nt ph j ∧ ls2 j = pgL ht nt ph j) ∧ pX3_fillPages_j75 (I ph) (cz hc) (cz nc) (I g) (pX3_fillPages_L22 (I ph) (cz hc) (cz nc) (I g) m) (cz pn) (cz ls) (I c9b) (I ub) (I sb) (I k) = some (cz pn2, cz ls2, I (pgC ht nt ph g)) := by
        intro c9b ub sb e1 e2 e3
        unfold pX3_fillPages_j75
        simp (disch := omega) only [if_true, if_false, I_add, I_sub, I_mul, I_neg, I_ofNat, Option.bind_some, kIn, I_l0, I_l1, I_l2, I_l3, I_l4, I_l5, I_l6, I_l7, I_l8, I_l9, I_l10, I_l11, I_l12, I_l13, I_l40, I_l43, I_l44, I_l45, I_l48, I_l57, I_l58, I_l60, I_l61, I_l62, I_l79, I_l80, I_l100, I_l101, I_l120, I_l200, I_l201, I_l1999, I_l2000, I_l2001, I_le, I_lt, I_eq, I_toInt, cz_at, cz_up, if_pos, if_neg]
        rw [h5, h6]
        refine ih (up pn k (c9b - 1)) (up ls k ub) c9b (ub + ht k) (sb + nt k) (k + 1) (by omega) (by omega) (by omega) (fun j j0 j1 => ?_) ⟨fun _ => e1, fun z => by omega⟩ (by omega) (by omega)
        by_cases q3 : j = k
        · subst q3
          rw [up_at rfl, up_at rfl, e1, e2]
          exact ⟨rfl, rfl⟩
        · rw [up_ne q3, up_ne q3]
          exact hj j j0 (by omega)
      have body : ∃ (c9b ub sb : Int), c9b = pgC ht nt ph (k + 1) ∧ ub = pgU ht nt ph (k + 1) - ht k ∧ sb = pgS ht nt ph (k + 1) - nt k ∧ pX3_fillPages_bL22 (I ph) (cz hc) (cz nc) (I g) (pX3_fillPages_L22 (I ph) (cz hc) (cz nc) (I g) m) (cz pn) (cz ls) (I c9) (I u) (I s) (I k) = pX3_fillPages_j75 (I ph) (cz hc) (cz nc) (I g) (pX3_fillPages_L22 (I ph) (cz hc) (cz nc) (I g) m) (cz pn) (cz ls) (I c9b) (I ub) (I sb) (I k) := by
        unfold pX3_fillPages_bL22
        by_cases q2 : k = 0
        · subst q2
          obtain ⟨z1, z2, z3⟩ := pg_0 ht nt ph
          have z4 := hc9.2 rfl
          rw [if_neg (by omega)] at z4
          refine ⟨c9, u, s, ?_, ?_, ?_, ?_⟩
          · rcases pg_s (ht := ht) (nt := nt) (ph := ph) h0 with ⟨-, e1, e2, e3⟩ | ⟨hne, e1, e2, e3⟩ <;> omega
          · rcases pg_s (ht := ht) (nt := nt) (ph := ph) h0 with ⟨-, e1, e2, e3⟩ | ⟨hne, e1, e2, e3⟩ <;> omega
          · rcases pg_s (ht := ht) (nt := nt) (ph := ph) h0 with ⟨-, e1, e2, e3⟩ | ⟨hne, e1, e2, e3⟩ <;> omega
          · simp (disch := omega) only [if_true, if_false, I_add, I_sub, I_mul, I_neg, I_ofNat, Option.bind_some, kIn, I_l0, I_l1, I_l2, I_l3, I_l4, I_l5, I_l6, I_l7, I_l8, I_l9, I_l10, I_l11, I_l12, I_l13, I_l40, I_l43, I_l44, I_l45, I_l48, I_l57, I_l58, I_l60, I_l61, I_l62, I_l79, I_l80, I_l100, I_l101, I_l120, I_l200, I_l201, I_l1999, I_l2000, I_l2001, I_le, if_neg, if_pos]
        · have z4 := hc9.1 (by omega)
          have w1 := wl_bd (x := s + nt k) (by omega)
          have e0 : pX3_withRule (I s + I (nt k)) = some (I (wl (s + nt k))) := by rw [I_add]; exact f3_withRule (by omega)
          rcases pg_s (ht := ht) (nt := nt) (ph := ph) h0 with ⟨hy, e1, e2, e3⟩ | ⟨hne, e1, e2, e3⟩
          · refine ⟨c9 + 1, 0, 0, by omega, by omega, by omega, ?_⟩
            rw [← hu, ← hs] at hy
            simp (disch := omega) only [if_true, if_false, I_add, I_sub, I_mul, I_neg, I_ofNat, Option.bind_some, kIn, I_l0, I_l1, I_l2, I_l3, I_l4, I_l5, I_l6, I_l7, I_l8, I_l9, I_l10, I_l11, I_l12, I_l13, I_l40, I_l43, I_l44, I_l45, I_l48, I_l57, I_l58, I_l60, I_l61, I_l62, I_l79, I_l80, I_l100, I_l101, I_l120, I_l200, I_l201, I_l1999, I_l2000, I_l2001, I_le, I_toInt, cz_at, if_neg, if_pos]
            rw [h5, h6, f3_withRule (by omega)]
            simp (disch := omega) only [if_true, if_false, I_add, I_sub, I_mul, I_neg, I_ofNat, Option.bind_some, kIn, I_l0, I_l1, I_l2, I_l3, I_l4, I_l5, I_l6, I_l7, I_l8, I_l9, I_l10, I_l11, I_l12, I_l13, I_l40, I_l43, I_l44, I_l45, I_l48, I_l57, I_l58, I_l60, I_l61, I_l62, I_l79, I_l80, I_l100, I_l101, I_l120, I_l200, I_l201, I_l1999, I_l2000, I_l2001, I_le, if_neg, if_pos]
          · refine ⟨c9, u, s, by omega, by omega, by omega, ?_⟩
            rw [← hu, ← hs] at hne
            simp (disch := omega) only [if_true, if_false, I_add, I_sub, I_mul, I_neg, I_ofNat, Option.bind_some, kIn, I_l0, I_l1, I_l2, I_l3, I_l4, I_l5, I_l6, I_l7, I_l8, I_l9, I_l10, I_l11, I_l12, I_l13, I_l40, I_l43, I_l44, I_l45, I_l48, I_l57, I_l58, I_l60, I_l61, I_l62, I_l79, I_l80, I_l100, I_l101, I_l120, I_l200, I_l201, I_l1999, I_l2000, I_l2001, I_le, I_toInt, cz_at, if_neg, if_pos]
            rw [h5, h6, f3_withRule (by omega)]
            simp (disch := omega) only [if_true, if_false, I_add, I_sub, I_mul, I_neg, I_ofNat, Option.bind_some, kIn, I_l0, I_l1, I_l2, I_l3, I_l4, I_l5, I_l6, I_l7, I_l8, I_l9, I_l10, I_l11, I_l12, I_l13, I_l40, I_l43, I_l44, I_l45, I_l48, I_l57, I_l58, I_l60, I_l61, I_l62, I_l79, I_l80, I_l100, I_l101, I_l120, I_l200, I_l201, I_l1999, I_l2000, I_l2001, I_le, if_neg, if_pos]
      obtain ⟨c9b, ub, sb, a1, a2, a3, a4⟩ := body
      obtain ⟨pn2, ls2, a5, a6⟩ := step c9b ub sb a1 a2 a3
      exact ⟨pn2, ls2, a5, a4.trans a6⟩
theorem f3_fillPages {hc nc ht nt pn ls : Int → Int} {ph g c9 : Int} (hg : 0 ≤ g ∧ g ≤ 120) (hph : 0 ≤ ph ∧ ph ≤ 100000) (hh : ∀ i, 0 ≤ i → i < g → 0 ≤ ht i ∧ ht i ≤ 1000000) (hn : ∀ i, 0 ≤ i → i < g → 0 ≤ nt i ∧ nt i ≤ 1000000) (ehc : ∀ i, 0 ≤ i → i < g → hc i = ht i) (enc : ∀ i, 0 ≤ i → i < g → nc i = nt i) : ∃ pn2 ls2 : Int → Int, (∀ j, 0 ≤ j → j < g → pn2 j = pgP ht nt ph j ∧ ls2 j = pgL ht nt ph j) ∧ pX3_fillPages (I ph) (cz hc) (cz nc) (cz pn) (cz ls) (I g) (I c9) = some (cz pn2, cz ls2, I (pgC ht nt ph g)) := by
  unfold pX3_fillPages pX3_fillPages_j13
  simp (disch := omega) only [if_true, if_false, I_add, I_sub, I_mul, I_neg, I_ofNat, Option.bind_some, kIn, I_l0, I_l1, I_l2, I_l3, I_l4, I_l5, I_l6, I_l7, I_l8, I_l9, I_l10, I_l11, I_l12, I_l13, I_l40, I_l43, I_l44, I_l45, I_l48, I_l57, I_l58, I_l60, I_l61, I_l62, I_l79, I_l80, I_l100, I_l101, I_l120, I_l200, I_l201, I_l1999, I_l2000, I_l2001, I_eq]
  by_cases q : g = 0
  · rw [if_pos q]
    exact f3_fillPages_L hg hph hh hn ehc enc 4000 pn ls 0 0 0 0 (by omega) (by omega) (by omega) (fun j a b => by omega) ⟨fun z => by omega, fun _ => by rw [if_pos q]⟩ rfl rfl
  · rw [if_neg q]
    exact f3_fillPages_L hg hph hh hn ehc enc 4000 pn ls 1 0 0 0 (by omega) (by omega) (by omega) (fun j a b => by omega) ⟨fun z => by omega, fun _ => by rw [if_neg q]⟩ rfl rfl

