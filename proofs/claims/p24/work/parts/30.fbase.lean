-- out of 30.fbase
-- whole numbers for ints: pure functions over Int, loops as sums
def I (a : Int) : Int32 := Int32.ofInt a
theorem I_add (a b : Int) : I a + I b = I (a + b) := (Int32.ofInt_add a b).symm
theorem I_sub (a b : Int) : I a - I b = I (a - b) := (Int32.ofInt_sub a b).symm
theorem I_mul (a b : Int) : I a * I b = I (a * b) := (Int32.ofInt_mul a b).symm
theorem I_neg (a : Int) : -(I a) = I (-a) := (Int32.ofInt_neg a).symm
theorem I_ofNat (n : Nat) : Int32.ofNat n = I (n : Int) := Int32.ofInt_eq_ofNat.symm
theorem I_toInt {a : Int} (h : -2147483648 ≤ a ∧ a ≤ 2147483647) : (I a).toInt = a := Int32.toInt_ofInt_of_le (by omega) (by omega)
theorem I_le {a b : Int} (h : (-2147483648 ≤ a ∧ a ≤ 2147483647) ∧ -2147483648 ≤ b ∧ b ≤ 2147483647) : (I a ≤ I b) = (a ≤ b) := by
  rw [Int32.le_iff_toInt_le, I_toInt h.1, I_toInt h.2]
theorem I_lt {a b : Int} (h : (-2147483648 ≤ a ∧ a ≤ 2147483647) ∧ -2147483648 ≤ b ∧ b ≤ 2147483647) : (I a < I b) = (a < b) := by
  rw [Int32.lt_iff_toInt_lt, I_toInt h.1, I_toInt h.2]
theorem I_eq {a b : Int} (h : (-2147483648 ≤ a ∧ a ≤ 2147483647) ∧ -2147483648 ≤ b ∧ b ≤ 2147483647) : (I a = I b) = (a = b) := by
  refine propext ⟨fun e => ?_, fun e => by rw [e]⟩
  have e2 := congrArg Int32.toInt e
  rwa [I_toInt h.1, I_toInt h.2] at e2
theorem I_clamp {a : Int} (h : 0 ≤ a ∧ a ≤ 2147483647) : (I a).toNatClampNeg = a.toNat := Int32.toNatClampNeg_ofInt_of_le (by omega) (by omega)
theorem I_of (x : Int32) : ∃ a : Int, (-2147483648 ≤ a ∧ a ≤ 2147483647) ∧ x = I a := ⟨x.toInt, ⟨by have := x.le_toInt; omega, by have := x.toInt_lt; omega⟩, (Int32.ofInt_toInt x).symm⟩
theorem sI {a b : Int} (h : a = b) : some (I a) = some (I b) := by rw [h]
theorem I_div {a b : Int} (h : 0 ≤ a ∧ a ≤ 2147483647 ∧ 1 ≤ b ∧ b ≤ 2147483647) : I a / I b = I (a / b) := by
  have h1 : 0 ≤ a / b := Int.ediv_nonneg h.1 (by omega)
  have h2 : a / b ≤ a := Int.ediv_le_self b h.1
  have hb : (I b) ≠ -1 := by
    intro e
    have e2 := congrArg Int32.toInt e
    rw [I_toInt (by omega)] at e2
    have : (-1 : Int32).toInt = -1 := by decide
    omega
  refine Int32.toInt_inj.mp ?_
  rw [Int32.toInt_div_of_ne_right _ _ hb, I_toInt (by omega), I_toInt (by omega), I_toInt (by omega), Int.tdiv_eq_ediv_of_nonneg h.1]
theorem I_l0 : (0 : Int32) = I 0 := rfl
theorem I_l1 : (1 : Int32) = I 1 := rfl
theorem I_l2 : (2 : Int32) = I 2 := rfl
theorem I_l3 : (3 : Int32) = I 3 := rfl
theorem I_l4 : (4 : Int32) = I 4 := rfl
theorem I_l5 : (5 : Int32) = I 5 := rfl
theorem I_l6 : (6 : Int32) = I 6 := rfl
theorem I_l7 : (7 : Int32) = I 7 := rfl
theorem I_l8 : (8 : Int32) = I 8 := rfl
theorem I_l9 : (9 : Int32) = I 9 := rfl
theorem I_l10 : (10 : Int32) = I 10 := rfl
theorem I_l11 : (11 : Int32) = I 11 := rfl
theorem I_l12 : (12 : Int32) = I 12 := rfl
theorem I_l13 : (13 : Int32) = I 13 := rfl
theorem I_l40 : (40 : Int32) = I 40 := rfl
theorem I_l43 : (43 : Int32) = I 43 := rfl
theorem I_l44 : (44 : Int32) = I 44 := rfl
theorem I_l45 : (45 : Int32) = I 45 := rfl
theorem I_l48 : (48 : Int32) = I 48 := rfl
theorem I_l57 : (57 : Int32) = I 57 := rfl
theorem I_l58 : (58 : Int32) = I 58 := rfl
theorem I_l60 : (60 : Int32) = I 60 := rfl
theorem I_l61 : (61 : Int32) = I 61 := rfl
theorem I_l62 : (62 : Int32) = I 62 := rfl
theorem I_l79 : (79 : Int32) = I 79 := rfl
theorem I_l80 : (80 : Int32) = I 80 := rfl
theorem I_l100 : (100 : Int32) = I 100 := rfl
theorem I_l101 : (101 : Int32) = I 101 := rfl
theorem I_l120 : (120 : Int32) = I 120 := rfl
theorem I_l200 : (200 : Int32) = I 200 := rfl
theorem I_l201 : (201 : Int32) = I 201 := rfl
theorem I_l1999 : (1999 : Int32) = I 1999 := rfl
theorem I_l2000 : (2000 : Int32) = I 2000 := rfl
theorem I_l2001 : (2001 : Int32) = I 2001 := rfl
-- rows as functions of whole numbers
def cz (F : Int → Int) : Nat → Int32 := fun i => I (F (i : Int))
theorem cz_at {F : Int → Int} {a : Int} (h : 0 ≤ a ∧ a ≤ 2147483647) : cz F (I a).toNatClampNeg = I (F a) := by
  rw [I_clamp h]
  show I (F ((a.toNat : Nat) : Int)) = I (F a)
  rw [Int.toNat_of_nonneg h.1]
theorem cz_of (f : Nat → Int32) : ∃ F : Int → Int, f = cz F ∧ ∀ i, -2147483648 ≤ F i ∧ F i ≤ 2147483647 := by
  refine ⟨fun i => (f i.toNat).toInt, ?_, fun i => ⟨by have := (f i.toNat).le_toInt; show _ ≤ (f i.toNat).toInt; omega, by have := (f i.toNat).toInt_lt; show (f i.toNat).toInt ≤ _; omega⟩⟩
  funext i
  show f i = Int32.ofInt (f ((i : Int).toNat)).toInt
  rw [Int32.ofInt_toInt, Int.toNat_natCast]
def up (F : Int → Int) (k v : Int) : Int → Int := fun j => if j = k then v else F j
theorem cz_up {F : Int → Int} {a v : Int} (h : 0 ≤ a ∧ a ≤ 2147483647) : upd (cz F) (I a).toNatClampNeg (I v) = cz (up F a v) := by
  rw [I_clamp h]
  funext i
  show (if i = a.toNat then I v else I (F i)) = I (if (i : Int) = a then v else F i)
  by_cases g : i = a.toNat
  · rw [if_pos g, if_pos (by omega)]
  · rw [if_neg g, if_neg (by omega)]
def cpy (F G : Int → Int) (s d n : Int) : Int → Int := fun k => if d ≤ k ∧ k < d + n then F (s + (k - d)) else G k
theorem cz_cpy {F G : Int → Int} {s d n : Int} (hs : 0 ≤ s ∧ s ≤ 2147483647) (hd : 0 ≤ d ∧ d ≤ 2147483647) (hn : 0 ≤ n ∧ n ≤ 2147483647) : va_cpy (cz F) (cz G) (I s).toNatClampNeg (I d).toNatClampNeg (I n).toNatClampNeg = cz (cpy F G s d n) := by
  rw [I_clamp hs, I_clamp hd, I_clamp hn]
  funext i
  show (if d.toNat ≤ i ∧ i < d.toNat + n.toNat then I (F ((s.toNat + (i - d.toNat) : Nat) : Int)) else I (G i)) = I (if d ≤ (i : Int) ∧ (i : Int) < d + n then F (s + ((i : Int) - d)) else G i)
  by_cases g : d.toNat ≤ i ∧ i < d.toNat + n.toNat
  · rw [if_pos g, if_pos (by omega)]
    have : ((s.toNat + (i - d.toNat) : Nat) : Int) = s + ((i : Int) - d) := by omega
    rw [this]
  · rw [if_neg g, if_neg (by omega)]
theorem up_at {F : Int → Int} {k v j : Int} (h : j = k) : up F k v j = v := if_pos h
theorem up_ne {F : Int → Int} {k v j : Int} (h : ¬ j = k) : up F k v j = F j := if_neg h
-- sums of the first values
def SmN (F : Int → Int) : Nat → Int
  | 0 => 0
  | n + 1 => SmN F n + F (n : Int)
def Sm (F : Int → Int) (n : Int) : Int := SmN F n.toNat
theorem Sm_0 (F : Int → Int) : Sm F 0 = 0 := rfl
theorem Sm_s {F : Int → Int} {k : Int} (h : 0 ≤ k) : Sm F (k + 1) = Sm F k + F k := by
  have e : (k + 1).toNat = k.toNat + 1 := by omega
  show SmN F (k + 1).toNat = SmN F k.toNat + F k
  rw [e]
  show SmN F k.toNat + F ((k.toNat : Nat) : Int) = _
  rw [Int.toNat_of_nonneg h]
theorem Sm_p {F : Int → Int} {k : Int} (h : 0 < k) : Sm F k = Sm F (k - 1) + F (k - 1) := by
  have := Sm_s (F := F) (k := k - 1) (by omega)
  rwa [show k - 1 + 1 = k by omega] at this
theorem zind {P : Int → Prop} (h0 : P 0) (hs : ∀ k, 0 ≤ k → P k → P (k + 1)) (n : Int) (hn : 0 ≤ n) : P n := by
  obtain ⟨m, rfl⟩ : ∃ m : Nat, n = m := ⟨n.toNat, by omega⟩
  clear hn
  induction m with
  | zero => exact h0
  | succ m ih => exact hs m (by omega) ih
theorem zindR {P : Int → Prop} (a : Int) (h0 : P a) (hs : ∀ k, a ≤ k → P k → P (k + 1)) (n : Int) (hn : a ≤ n) : P n := by
  have := zind (P := fun k => P (a + k)) (by rwa [show a + 0 = a by omega]) (fun k hk h => by have := hs (a + k) (by omega) h; rwa [show a + (k + 1) = a + k + 1 by omega]) (n - a) (by omega)
  rwa [show a + (n - a) = n by omega] at this
theorem Sm_congr {F G : Int → Int} {n : Int} (hn : 0 ≤ n) (h : ∀ i, 0 ≤ i → i < n → F i = G i) : Sm F n = Sm G n := by
  revert h
  refine zind (P := fun n => (∀ i, 0 ≤ i → i < n → F i = G i) → Sm F n = Sm G n) (fun _ => rfl) (fun k hk ih h => ?_) n hn
  rw [Sm_s hk, Sm_s hk, ih (fun i h1 h2 => h i h1 (by omega)), h k hk (by omega)]
theorem Sm_lo {F : Int → Int} {c n : Int} (hn : 0 ≤ n) (h : ∀ i, 0 ≤ i → i < n → c ≤ F i) : c * n ≤ Sm F n := by
  revert h
  refine zind (P := fun n => (∀ i, 0 ≤ i → i < n → c ≤ F i) → c * n ≤ Sm F n) (fun _ => by rw [Int.mul_zero]; exact Int.le_refl _) (fun k hk ih h => ?_) n hn
  have h1 := ih (fun i h1 h2 => h i h1 (by omega))
  have h2 := h k hk (by omega)
  rw [Sm_s hk, Int.mul_add, Int.mul_one]
  omega
theorem Sm_hi {F : Int → Int} {c n : Int} (hn : 0 ≤ n) (h : ∀ i, 0 ≤ i → i < n → F i ≤ c) : Sm F n ≤ c * n := by
  revert h
  refine zind (P := fun n => (∀ i, 0 ≤ i → i < n → F i ≤ c) → Sm F n ≤ c * n) (fun _ => by rw [Int.mul_zero]; exact Int.le_refl _) (fun k hk ih h => ?_) n hn
  have h1 := ih (fun i h1 h2 => h i h1 (by omega))
  have h2 := h k hk (by omega)
  rw [Sm_s hk, Int.mul_add, Int.mul_one]
  omega
theorem Sm_nn {F : Int → Int} {n : Int} (hn : 0 ≤ n) (h : ∀ i, 0 ≤ i → i < n → 0 ≤ F i) : 0 ≤ Sm F n := by
  have := Sm_lo (c := 0) hn h
  omega
theorem Sm_mono {F : Int → Int} {m n : Int} (hm : 0 ≤ m) (hmn : m ≤ n) (h : ∀ i, m ≤ i → i < n → 0 ≤ F i) : Sm F m ≤ Sm F n := by
  revert h
  refine zindR (P := fun n => (∀ i, m ≤ i → i < n → 0 ≤ F i) → Sm F m ≤ Sm F n) m (fun _ => Int.le_refl _) (fun k hk ih h => ?_) n hmn
  have h1 := ih (fun i h1 h2 => h i h1 (by omega))
  have h2 := h k hk (by omega)
  rw [Sm_s (by omega)]
  omega
theorem Sm_le {F G : Int → Int} {n : Int} (hn : 0 ≤ n) (h : ∀ i, 0 ≤ i → i < n → F i ≤ G i) : Sm F n ≤ Sm G n := by
  revert h
  refine zind (P := fun n => (∀ i, 0 ≤ i → i < n → F i ≤ G i) → Sm F n ≤ Sm G n) (fun _ => Int.le_refl _) (fun k hk ih h => ?_) n hn
  have h1 := ih (fun i h1 h2 => h i h1 (by omega))
  have h2 := h k hk (by omega)
  rw [Sm_s hk, Sm_s hk]
  omega
theorem Sm_add {F G : Int → Int} {n : Int} (hn : 0 ≤ n) : Sm (fun i => F i + G i) n = Sm F n + Sm G n := by
  refine zind (P := fun n => Sm (fun i => F i + G i) n = Sm F n + Sm G n) rfl (fun k hk ih => ?_) n hn
  rw [Sm_s hk, Sm_s hk, Sm_s hk, ih]
  omega
-- the sum behind a place
theorem Sm_shift {F G : Int → Int} {a d n : Int} (ha : 0 ≤ a) (had : 0 ≤ a + d) (hn : a ≤ n) (h : ∀ i, a ≤ i → i < n → G i = F (i + d)) : Sm G n - Sm G a = Sm F (n + d) - Sm F (a + d) := by
  revert h
  refine zindR (P := fun n => (∀ i, a ≤ i → i < n → G i = F (i + d)) → Sm G n - Sm G a = Sm F (n + d) - Sm F (a + d)) a (fun _ => by omega) (fun k hk ih h => ?_) n hn
  have h1 := ih (fun i h1 h2 => h i h1 (by omega))
  have h2 := h k hk (by omega)
  rw [Sm_s (by omega), show k + 1 + d = (k + d) + 1 by omega, Sm_s (by omega), h2]
  omega
-- a value at a place within, else 0
def at0 (F : Int → Int) (n a : Int) : Int := if 0 ≤ a ∧ a < n then F a else 0
theorem at0_in {F : Int → Int} {n a : Int} (h : 0 ≤ a ∧ a < n) : at0 F n a = F a := if_pos h
theorem at0_out {F : Int → Int} {n a : Int} (h : ¬ (0 ≤ a ∧ a < n)) : at0 F n a = 0 := if_neg h
theorem at0_bd {F : Int → Int} {n lo hi : Int} (h : ∀ i, 0 ≤ i → i < n → lo ≤ F i ∧ F i ≤ hi) (h0 : lo ≤ 0 ∧ 0 ≤ hi) (a : Int) : lo ≤ at0 F n a ∧ at0 F n a ≤ hi := by
  by_cases g : 0 ≤ a ∧ a < n
  · rw [at0_in g]; exact h a g.1 g.2
  · rw [at0_out g]; exact h0

