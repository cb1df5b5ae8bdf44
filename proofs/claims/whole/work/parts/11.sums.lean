/-- sums -/
def sm (h : Int → Int) : Nat → Int
  | 0 => 0
  | n + 1 => sm h n + h (n : Int)
def sI (h : Int → Int) (e : Int) : Int := sm h e.toNat
theorem sI_0 (h : Int → Int) : sI h 0 = 0 := rfl
theorem sI_s (h : Int → Int) {e : Int} (h0 : 0 ≤ e) : sI h (e + 1) = sI h e + h e := by
  unfold sI
  obtain ⟨n, rfl⟩ := Int.eq_ofNat_of_zero_le h0
  rfl
theorem sI_bd {h : Int → Int} {B : Int} {n : Int} (hB : ∀ e, 0 ≤ e → e < n → -B ≤ h e ∧ h e ≤ B) (hn : 0 ≤ n) : -(B * n) ≤ sI h n ∧ sI h n ≤ B * n := by
  obtain ⟨n, rfl⟩ := Int.eq_ofNat_of_zero_le hn
  induction n with
  | zero => simp [sI, sm]
  | succ n ih =>
    have h1 := ih (fun e a b => hB e a (by omega)) (by omega)
    have h2 := hB (n : Int) (by omega) (by omega)
    have e : sI h ((n + 1 : Nat) : Int) = sI h ((n : Nat) : Int) + h n := rfl
    rw [show ((n + 1 : Nat) : Int) = (n : Int) + 1 by simp] at e ⊢
    rw [e, Int.mul_add, Int.mul_one]
    omega
theorem sI_nn {h : Int → Int} {n : Int} (hB : ∀ e, 0 ≤ e → e < n → 0 ≤ h e) (hn : 0 ≤ n) : 0 ≤ sI h n := by
  obtain ⟨n, rfl⟩ := Int.eq_ofNat_of_zero_le hn
  induction n with
  | zero => simp [sI, sm]
  | succ n ih =>
    have h1 := ih (fun e a b => hB e a (by omega)) (by omega)
    have h2 := hB (n : Int) (by omega) (by omega)
    have e : sI h ((n + 1 : Nat) : Int) = sI h ((n : Nat) : Int) + h n := rfl
    rw [e]
    omega
theorem sI_cg {h h' : Int → Int} {n : Int} (hB : ∀ e, 0 ≤ e → e < n → h e = h' e) (hn : 0 ≤ n) : sI h n = sI h' n := by
  obtain ⟨n, rfl⟩ := Int.eq_ofNat_of_zero_le hn
  induction n with
  | zero => rfl
  | succ n ih =>
    have h1 := ih (fun e a b => hB e a (by omega)) (by omega)
    have h2 := hB (n : Int) (by omega) (by omega)
    show sI h ((n : Nat) : Int) + h n = sI h' ((n : Nat) : Int) + h' n
    omega
def ld (F : Int → Int) (d : Int) : Int := if fOn F d = 0 then mOn F d else -mOn F d
def mf (F : Int → Int) (farm d : Int) : Int := if fOn F d = farm then mOn F d else 0
theorem ld9 {F : Int → Int} (h : FI F) (ht : 0 < F 2) (d : Int) : -9 ≤ ld F d ∧ ld F d ≤ 9 := by
  have := mOn9 h ht d
  unfold ld; split <;> omega
theorem mf9 {F : Int → Int} (h : FI F) (ht : 0 < F 2) (q d : Int) : 0 ≤ mf F q d ∧ mf F q d ≤ 9 := by
  have := mOn9 h ht d
  unfold mf; split <;> omega
/-- a beast's five numbers -/
def setB (g : Mm) (q k w o : Int) : Mm := fun p j => if p = q ∧ 0 ≤ j ∧ j < 5 then (if j = 0 then k else if j = 1 then w else if j = 2 then o else if j = 3 then vTo k w 0 else vTo k w 1) else g p j
theorem setB_eq {X g : Mm} {q k w o : Int} (h0 : X q 0 = k) (h1 : X q 1 = w) (h2 : X q 2 = o) (h3 : X q 3 = vTo k w 0) (h4 : X q 4 = vTo k w 1) (hj : ∀ j, (j < 0 ∨ 4 < j) → X q j = g q j) (hq : ∀ p, p ≠ q → X p = g p) : X = setB g q k w o := by
  funext p j
  unfold setB
  by_cases hp : p = q
  · subst hp
    by_cases hh : 0 ≤ j ∧ j < 5
    · rw [if_pos ⟨rfl, hh.1, hh.2⟩]
      rcases (show j = 0 ∨ j = 1 ∨ j = 2 ∨ j = 3 ∨ j = 4 by omega) with rfl | rfl | rfl | rfl | rfl <;> simp_all
    · rw [if_neg (fun z => hh z.2)]
      exact hj j (by omega)
  · rw [if_neg (fun z => hp z.1), hq p hp]
/-- a row's first n places filled -/
def fil (g : Mm) (q n v : Int) : Mm := fun p j => if p = q ∧ 0 ≤ j ∧ j < n then v else g p j
theorem fil_0 (g : Mm) (q v : Int) : fil g q 0 v = g := by
  funext p j; unfold fil; rw [if_neg (by omega)]
theorem fil_s {g : Mm} {q n v : Int} (hn : 0 ≤ n) : mu (fil g q n v) q n v = fil g q (n + 1) v := by
  funext p j; unfold mu fil
  by_cases hp : p = q <;> by_cases hj : j = n <;> by_cases h0 : 0 ≤ j <;> by_cases h1 : j < n <;> simp [hp, hj, h0, h1] <;> omega
theorem mu_mu (g : Mm) (p j v w : Int) : mu (mu g p j v) p j w = mu g p j w := by
  funext p' j'; unfold mu; by_cases h : p' = p ∧ j' = j <;> simp [h]
