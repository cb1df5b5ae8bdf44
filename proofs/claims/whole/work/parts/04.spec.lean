/-! The farms as a flat row F of numbers (the reference's own lay-out: 0 BEASTS, 1 TURNS, 2 MILKS, 3 TODAY, 4 DEEDS, 5 NET, 6.. T, 14.. M, 20.. B by three, 38.. D), and what is reckoned of them. -/
theorem emd {d n : Int} (h : 0 < n) : 0 ≤ d % n ∧ d % n < n := ⟨Int.emod_nonneg _ (by omega), Int.emod_lt_of_pos _ h⟩
def fOn (F : Int → Int) (d : Int) : Int := F (6 + d % F 1)
def mOn (F : Int → Int) (d : Int) : Int := F (14 + d % F 2)
/-- the VALUE of a BEAST of a KIND and WORTH to a FARM -/
def vTo (k w farm : Int) : Int :=
  if k = 1 then w else if k = 2 then 2 * w + 3 * farm else if k = 4 then 2 * w + 3 * farm + 2 else if k = 3 then (if farm = 0 then 4 * w else 2 * w) else if k = 5 then (if farm = 0 then 4 * w - 1 else 2 * w - 1) else 2 * w
/-- a DEED's own numbers: is it a DAY, what FARM 0 gains by it -/
def dDay (x : Int) : Int := if x = 0 then 1 else 0
def dNet (x : Int) : Int := if x < 100 then 0 else if x < 200 then 100 - x else x - 200
def dSum (h : Int → Int) (F : Int → Int) : Nat → Int
  | 0 => 0
  | n + 1 => dSum h F n + h (F (38 + (n : Int)))
def dOk (x : Int) : Prop := x = 0 ∨ (1 ≤ x ∧ x ≤ 6) ∨ (101 ≤ x ∧ x ≤ 199) ∨ (201 ≤ x ∧ x ≤ 299)
/-- what holds of every FARMS -/
def FI (F : Int → Int) : Prop :=
  (0 ≤ F 0 ∧ F 0 ≤ 6 ∧ 0 ≤ F 1 ∧ F 1 ≤ 8 ∧ 0 ≤ F 2 ∧ F 2 ≤ 6 ∧ 0 ≤ F 4 ∧ F 4 ≤ 60 ∧ (0 < F 0 → 0 < F 1 ∧ 0 < F 2)) ∧
  (∀ j, 0 ≤ j → j < F 1 → F (6 + j) = 0 ∨ F (6 + j) = 1) ∧ (∀ j, 0 ≤ j → j < F 2 → 0 ≤ F (14 + j) ∧ F (14 + j) ≤ 9) ∧
  (∀ i, 0 ≤ i → i < F 0 → (0 ≤ F (20 + 3 * i) ∧ F (20 + 3 * i) ≤ 5) ∧ (1 ≤ F (20 + 3 * i + 1) ∧ F (20 + 3 * i + 1) ≤ 9) ∧ (F (20 + 3 * i + 2) = 0 ∨ F (20 + 3 * i + 2) = 1)) ∧
  (∀ k, 0 ≤ k → k < F 4 → dOk (F (38 + k)) ∧ (1 ≤ F (38 + k) → F (38 + k) ≤ 6 → F (38 + k) ≤ F 0)) ∧
  F 3 = dSum dDay F (F 4).toNat ∧ F 5 = dSum dNet F (F 4).toNat ∧ F 3 ≤ 999 ∧ (F 0 = 0 → F 4 = 0)
/-- the class's FARMS number f (0 now, 1 .. 3 kept, 4 the draft) hold F -/
def FR (g : Mm) (f : Int) (F : Int → Int) : Prop :=
  (g (26 + f) 7 = F 0 ∧ g (26 + f) 5 = F 1 ∧ g (26 + f) 6 = F 2 ∧ g (26 + f) 9 = F 3 ∧ g (26 + f) 8 = F 4 ∧ g (26 + f) 10 = F 5) ∧
  (∀ j, 0 ≤ j → j < F 1 → g (31 + f) j = F (6 + j)) ∧ (∀ j, 0 ≤ j → j < F 2 → g (36 + f) j = F (14 + j)) ∧
  (∀ i, 0 ≤ i → i < F 0 → g (56 + 6 * f + i) 0 = F (20 + 3 * i) ∧ g (56 + 6 * f + i) 1 = F (20 + 3 * i + 1) ∧ g (56 + 6 * f + i) 2 = F (20 + 3 * i + 2) ∧ g (56 + 6 * f + i) 3 = vTo (F (20 + 3 * i)) (F (20 + 3 * i + 1)) 0 ∧ g (56 + 6 * f + i) 4 = vTo (F (20 + 3 * i)) (F (20 + 3 * i + 1)) 1) ∧
  (∀ k, 0 ≤ k → k < F 4 → (F (38 + k) = 0 ∧ g (46 + f) k = 0) ∨ (1 ≤ F (38 + k) ∧ F (38 + k) ≤ 6 ∧ g (46 + f) k = 1 ∧ g (51 + f) k = F (38 + k) - 1) ∨ (101 ≤ F (38 + k) ∧ F (38 + k) ≤ 199 ∧ g (46 + f) k = 2 ∧ g (51 + f) k = 100 - F (38 + k)) ∨ (201 ≤ F (38 + k) ∧ F (38 + k) ≤ 299 ∧ g (46 + f) k = 2 ∧ g (51 + f) k = F (38 + k) - 200))
theorem FR.bc {g : Mm} {f : Int} {F : Int → Int} (h : FR g f F) : g (26 + f) 7 = F 0 := h.1.1
theorem FR.tc {g : Mm} {f : Int} {F : Int → Int} (h : FR g f F) : g (26 + f) 5 = F 1 := h.1.2.1
theorem FR.mc {g : Mm} {f : Int} {F : Int → Int} (h : FR g f F) : g (26 + f) 6 = F 2 := h.1.2.2.1
theorem FR.td {g : Mm} {f : Int} {F : Int → Int} (h : FR g f F) : g (26 + f) 9 = F 3 := h.1.2.2.2.1
theorem FR.dc {g : Mm} {f : Int} {F : Int → Int} (h : FR g f F) : g (26 + f) 8 = F 4 := h.1.2.2.2.2.1
theorem FR.pd {g : Mm} {f : Int} {F : Int → Int} (h : FR g f F) : g (26 + f) 10 = F 5 := h.1.2.2.2.2.2
theorem FR.tn {g : Mm} {f : Int} {F : Int → Int} (h : FR g f F) {j : Int} (h0 : 0 ≤ j) (h1 : j < F 1) : g (31 + f) j = F (6 + j) := h.2.1 j h0 h1
theorem FR.mk {g : Mm} {f : Int} {F : Int → Int} (h : FR g f F) {j : Int} (h0 : 0 ≤ j) (h1 : j < F 2) : g (36 + f) j = F (14 + j) := h.2.2.1 j h0 h1
theorem FR.bs {g : Mm} {f : Int} {F : Int → Int} (h : FR g f F) {i : Int} (h0 : 0 ≤ i) (h1 : i < F 0) : g (56 + 6 * f + i) 0 = F (20 + 3 * i) ∧ g (56 + 6 * f + i) 1 = F (20 + 3 * i + 1) ∧ g (56 + 6 * f + i) 2 = F (20 + 3 * i + 2) ∧ g (56 + 6 * f + i) 3 = vTo (F (20 + 3 * i)) (F (20 + 3 * i + 1)) 0 ∧ g (56 + 6 * f + i) 4 = vTo (F (20 + 3 * i)) (F (20 + 3 * i + 1)) 1 := h.2.2.2.1 i h0 h1
theorem FI.n {F : Int → Int} (h : FI F) : 0 ≤ F 0 ∧ F 0 ≤ 6 ∧ 0 ≤ F 1 ∧ F 1 ≤ 8 ∧ 0 ≤ F 2 ∧ F 2 ≤ 6 ∧ 0 ≤ F 4 ∧ F 4 ≤ 60 ∧ (0 < F 0 → 0 < F 1 ∧ 0 < F 2) := h.1
theorem FI.t {F : Int → Int} (h : FI F) {j : Int} (h0 : 0 ≤ j) (h1 : j < F 1) : F (6 + j) = 0 ∨ F (6 + j) = 1 := h.2.1 j h0 h1
theorem FI.m {F : Int → Int} (h : FI F) {j : Int} (h0 : 0 ≤ j) (h1 : j < F 2) : 0 ≤ F (14 + j) ∧ F (14 + j) ≤ 9 := h.2.2.1 j h0 h1
theorem FI.b {F : Int → Int} (h : FI F) {i : Int} (h0 : 0 ≤ i) (h1 : i < F 0) : (0 ≤ F (20 + 3 * i) ∧ F (20 + 3 * i) ≤ 5) ∧ (1 ≤ F (20 + 3 * i + 1) ∧ F (20 + 3 * i + 1) ≤ 9) ∧ (F (20 + 3 * i + 2) = 0 ∨ F (20 + 3 * i + 2) = 1) := h.2.2.2.1 i h0 h1
theorem fOn01 {F : Int → Int} (h : FI F) (ht : 0 < F 1) (d : Int) : fOn F d = 0 ∨ fOn F d = 1 := h.t (emd ht).1 (emd ht).2
theorem mOn9 {F : Int → Int} (h : FI F) (ht : 0 < F 2) (d : Int) : 0 ≤ mOn F d ∧ mOn F d ≤ 9 := h.m (emd ht).1 (emd ht).2
