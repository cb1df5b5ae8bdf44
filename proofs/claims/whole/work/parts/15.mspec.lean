/-! The model's memory: what holds of it always; its small steps. -/
def MI (h : Mm) : Prop :=
  (∀ r, 0 ≤ r → r < 6 → -1 ≤ h 1 r ∧ h 1 r ≤ 40) ∧ (∀ t, 0 ≤ t → t < 4 → -1 ≤ h 4 t ∧ h 4 t ≤ 60) ∧ (∀ j, R32 (h 2 j)) ∧ (∀ j, -128 ≤ h 5 j ∧ h 5 j ≤ 127) ∧
  (∀ k, 0 ≤ k → k < 3 → h 9 k = 0 ∨ h 9 k = 1) ∧ FI (h 6) ∧ (∀ k, 0 ≤ k → k < 3 → h 9 k = 1 → FI (fun j => h 8 (98 * k + j)) ∧ 0 < h 8 (98 * k))
theorem MI.sz {h : Mm} (H : MI h) {r : Int} (h0 : 0 ≤ r) (h1 : r < 6) : -1 ≤ h 1 r ∧ h 1 r ≤ 40 := H.1 r h0 h1
theorem MI.ln {h : Mm} (H : MI h) {t : Int} (h0 : 0 ≤ t) (h1 : t < 4) : -1 ≤ h 4 t ∧ h 4 t ≤ 60 := H.2.1 t h0 h1
theorem MI.it {h : Mm} (H : MI h) (j : Int) : R32 (h 2 j) := H.2.2.1 j
theorem MI.by {h : Mm} (H : MI h) (j : Int) : -128 ≤ h 5 j ∧ h 5 j ≤ 127 := H.2.2.2.1 j
theorem MI.kp {h : Mm} (H : MI h) {k : Int} (h0 : 0 ≤ k) (h1 : k < 3) : h 9 k = 0 ∨ h 9 k = 1 := H.2.2.2.2.1 k h0 h1
theorem MI.F {h : Mm} (H : MI h) : FI (h 6) := H.2.2.2.2.2.1
theorem MI.FK {h : Mm} (H : MI h) {k : Int} (h0 : 0 ≤ k) (h1 : k < 3) (h2 : h 9 k = 1) : FI (fun j => h 8 (98 * k + j)) ∧ 0 < h 8 (98 * k) := H.2.2.2.2.2.2 k h0 h1 h2
/-- a FINDING is answered -/
def fnM (g : Mm) (w : Int) : Mm := mu (mu g 0 10 w) 10 w (g 10 w + 1)
def fnC (g : Mm) (w : Int) : Mm := mu (mu g 0 6 w) 5 w (g 5 w + 1)
/-- a stretch of a row filled -/
def fls (g : Mm) (q b n v : Int) : Mm := fun p j => if p = q ∧ b ≤ j ∧ j < b + n then v else g p j
theorem fls_0 (g : Mm) (q b v : Int) : fls g q b 0 v = g := by
  funext p j; unfold fls; rw [if_neg (by omega)]
theorem fls_s {g : Mm} {q b n v : Int} (hn : 0 ≤ n) : mu (fls g q b n v) q (b + n) v = fls g q b (n + 1) v := by
  funext p j; unfold mu fls
  by_cases hp : p = q
  · by_cases hj : j = b + n
    · rw [if_pos ⟨hp, hj⟩, if_pos ⟨hp, by omega, by omega⟩]
    · rw [if_neg (fun z => hj z.2)]
      by_cases h : b ≤ j ∧ j < b + n
      · rw [if_pos ⟨hp, h.1, h.2⟩, if_pos ⟨hp, by omega, by omega⟩]
      · rw [if_neg (fun z => h z.2), if_neg (fun z => h ⟨z.2.1, by omega⟩)]
  · rw [if_neg (fun z => hp z.1), if_neg (fun z => hp z.1), if_neg (fun z => hp z.1)]
/-- a stretch of a row copied from a function -/
def cpf (g : Mm) (q b n : Int) (s : Int → Int) : Mm := fun p j => if p = q ∧ b ≤ j ∧ j < b + n then s (j - b) else g p j
theorem cpf_0 (g : Mm) (q b : Int) (s : Int → Int) : cpf g q b 0 s = g := by
  funext p j; unfold cpf; rw [if_neg (by omega)]
theorem cpf_s {g : Mm} {q b n : Int} {s : Int → Int} (hn : 0 ≤ n) : mu (cpf g q b n s) q (b + n) (s n) = cpf g q b (n + 1) s := by
  funext p j; unfold mu cpf
  by_cases hp : p = q
  · by_cases hj : j = b + n
    · rw [if_pos ⟨hp, hj⟩, if_pos ⟨hp, by omega, by omega⟩, show j - b = n by omega]
    · rw [if_neg (fun z => hj z.2)]
      by_cases h : b ≤ j ∧ j < b + n
      · rw [if_pos ⟨hp, h.1, h.2⟩, if_pos ⟨hp, by omega, by omega⟩]
      · rw [if_neg (fun z => h z.2), if_neg (fun z => h ⟨z.2.1, by omega⟩)]
  · rw [if_neg (fun z => hp z.1), if_neg (fun z => hp z.1), if_neg (fun z => hp z.1)]
theorem cpf_o {g : Mm} {q b n p : Int} {s : Int → Int} (h : p ≠ q) : cpf g q b n s p = g p := by
  funext j; unfold cpf; rw [if_neg (fun z => h z.1)]
theorem fls_o {g : Mm} {q b n p v : Int} (h : p ≠ q) : fls g q b n v p = g p := by
  funext j; unfold fls; rw [if_neg (fun z => h z.1)]
/-- a byte -/
def i8 (z : Int) : Int := (iI z).toInt8.toInt32.toInt
theorem i8_e (z : Int) : (iI z).toInt8.toInt32 = iI (i8 z) := (iI_of _).symm
theorem i8_r (z : Int) : -128 ≤ i8 z ∧ i8 z ≤ 127 := by
  unfold i8
  rw [Int8.toInt_toInt32]
  have h1 := Int8.le_toInt (iI z).toInt8
  have h2 := Int8.toInt_lt (iI z).toInt8
  omega
/-- division of longs, not below 0 -/
theorem lI_lN (n : Nat) : lI (n : Int) = lN n := Int64.ofInt_eq_ofNat
theorem lI_div {x y : Int} (h0 : 0 ≤ x) (hx : x < 9223372036854775808) (h1 : 0 < y) (hy : y < 9223372036854775808) : lI x / lI y = lI (x / y) := by
  obtain ⟨a, rfl⟩ := Int.eq_ofNat_of_zero_le h0
  obtain ⟨b, rfl⟩ := Int.eq_ofNat_of_zero_le (Int.le_of_lt h1)
  rw [lI_lN, lI_lN, pk_lDiv (by omega) (by omega) (by omega), ← Int.natCast_ediv, lI_lN]
theorem lI_rem {x y : Int} (h0 : 0 ≤ x) (hx : x < 9223372036854775808) (h1 : 0 < y) (hy : y < 9223372036854775808) : lI x - lI x / lI y * lI y = lI (x % y) := by
  rw [lI_div h0 hx h1 hy, lI_mul, lI_sub]
  congr 1
  have := Int.mul_ediv_add_emod x y
  rw [Int.mul_comm (x / y) y]
  omega
theorem lI_ne {y : Int} (h1 : 0 < y) (hy : y < 9223372036854775808) : ¬ lI y = 0 := fun h => by
  have := (lI_inj (b := 0) ⟨by omega, hy⟩ ⟨by omega, by omega⟩).mp h; omega
theorem gcd_step {x y : Int} (hx : 0 ≤ x) (hy : 0 ≤ y) : Int.gcd y (x % y) = Int.gcd x y := by
  obtain ⟨a, rfl⟩ := Int.eq_ofNat_of_zero_le hx
  obtain ⟨b, rfl⟩ := Int.eq_ofNat_of_zero_le hy
  show Nat.gcd b (a % b) = Nat.gcd a b
  rw [Nat.gcd_comm, ← Nat.gcd_rec, Nat.gcd_comm]
def mnZ (S n : Int) : Int := (lI S / lI n).toInt32.toInt
