-- out of 35.fref
-- the reference: W its row; what it says of a book (n verses: chapters c, letters l, notes o) and of the map (g groups: L, R)
def rB (W : Int → Int) (b n : Int) (c l o : Int → Int) : Prop := W (360 + b) = n ∧ W (362 + b) = at0 c n (n - 1) ∧ ∀ i, 0 ≤ i → i < n → W (60 * b + i) = l i ∧ W (120 + 60 * b + i) = o i ∧ W (240 + 60 * b + i) = c i
def rM (W : Int → Int) (g : Int) (L R : Int → Int) : Prop := W 364 = g ∧ ∀ i, 0 ≤ i → i < g → W (365 + i) = L i ∧ W (485 + i) = R i
-- a book as it may be
def okB (n : Int) (c l o : Int → Int) : Prop := (0 ≤ n ∧ n ≤ 60) ∧ ∀ i, 0 ≤ i → i < n → (1 ≤ l i ∧ l i ≤ 2000) ∧ (0 ≤ o i ∧ o i ≤ 10) ∧ (1 ≤ c i ∧ c i ≤ 10) ∧ (i = 0 → c i = 1) ∧ (i + 1 < n → c i ≤ c (i + 1) ∧ c (i + 1) ≤ c i + 1)
-- a map of m left and n right verses
def okM (g : Int) (L R : Int → Int) (m n : Int) : Prop := (0 ≤ g ∧ g ≤ 120) ∧ (∀ i, 0 ≤ i → i < g → (0 ≤ L i ∧ L i ≤ 60) ∧ (0 ≤ R i ∧ R i ≤ 60) ∧ 1 ≤ L i + R i) ∧ Sm L g = m ∧ Sm R g = n
-- widths: 0 stands for 40
def wdt (w : Int → Int) (b : Int) : Int := if w b = 0 then 40 else w b
