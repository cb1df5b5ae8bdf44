/-! Turns and milk: what the calls tell. -/
def wk (F : Int → Int) (e : Int) : Int := if fOn F (e + 1) = fOn F e then 0 else 1
def outP (F : Int → Int) (v d : Int) : Bool := decide (v < sI (ld F) (d + 1) ∨ v < -sI (ld F) (d + 1))
def rnd (T M : Int) : Int := (Nat.lcm T.toNat M.toNat : Int)
theorem rnd_tab : ∀ T : Fin 9, ∀ M : Fin 7, 0 < T.val → 0 < M.val → (Nat.lcm T.val M.val ≤ 42 ∧ 0 < Nat.lcm T.val M.val ∧ Nat.lcm T.val M.val % T.val = 0 ∧ Nat.lcm T.val M.val % M.val = 0) := by decide +kernel
theorem rnd_lt : ∀ T : Fin 9, ∀ M : Fin 7, 0 < T.val → 0 < M.val → ∀ n : Fin 49, 0 < n.val → n.val % T.val = 0 → n.val % M.val = 0 → Nat.lcm T.val M.val ≤ n.val := by decide +kernel
theorem rnd_p {T M : Int} (hT : 0 < T) (hT8 : T ≤ 8) (hM : 0 < M) (hM6 : M ≤ 6) : 0 < rnd T M ∧ rnd T M ≤ 42 ∧ rnd T M % T = 0 ∧ rnd T M % M = 0 := by
  have h := rnd_tab ⟨T.toNat, by omega⟩ ⟨M.toNat, by omega⟩ (by show 0 < T.toNat; omega) (by show 0 < M.toNat; omega)
  simp only at h
  unfold rnd
  have e1 : (T.toNat : Int) = T := by omega
  have e2 : (M.toNat : Int) = M := by omega
  refine ⟨by omega, by omega, ?_, ?_⟩
  · rw [← e1, Int.toNat_natCast]; exact_mod_cast h.2.2.1
  · rw [← e2, Int.toNat_natCast]; exact_mod_cast h.2.2.2
theorem rnd_l {T M n : Int} (hT : 0 < T) (hT8 : T ≤ 8) (hM : 0 < M) (hM6 : M ≤ 6) (hn : 0 < n) (hn48 : n ≤ 48) (h1 : n % T = 0) (h2 : n % M = 0) : rnd T M ≤ n := by
  have e1 : (T.toNat : Int) = T := by omega
  have e2 : (M.toNat : Int) = M := by omega
  have e3 : (n.toNat : Int) = n := by omega
  have h := rnd_lt ⟨T.toNat, by omega⟩ ⟨M.toNat, by omega⟩ (by show 0 < T.toNat; omega) (by show 0 < M.toNat; omega) ⟨n.toNat, by omega⟩ (by show 0 < n.toNat; omega) (by
    show n.toNat % T.toNat = 0
    rw [← e1, ← e3] at h1; exact_mod_cast h1) (by
    show n.toNat % M.toNat = 0
    rw [← e2, ← e3] at h2; exact_mod_cast h2)
  simp only at h
  unfold rnd
  omega
/-- two multiples of T: the lesser one and T are not above the greater one -/
theorem mul_gap {T a b : Int} (hT : 0 < T) (ha : a % T = 0) (hb : b % T = 0) (h : a < b) : a + T ≤ b := by
  have h1 := Int.mul_ediv_add_emod a T
  have h2 := Int.mul_ediv_add_emod b T
  rw [ha] at h1
  rw [hb] at h2
  have h3 : a / T < b / T := Int.lt_of_mul_lt_mul_left (a := T) (by omega) (by omega)
  have h4 : T * (a / T + 1) ≤ T * (b / T) := Int.mul_le_mul_of_nonneg_left (by omega) (by omega)
  rw [Int.mul_add] at h4
  omega
/-- turns by bits, the first day highest -/
def apS (F : Int → Int) (n c d : Int) : Int := if bt c (n - 1 - d) = 1 then mOn F d else -mOn F d
def apB (F : Int → Int) (n c : Int) : Int := if sI (apS F n c) n < 0 then -sI (apS F n c) n else sI (apS F n c) n
def wkB (n c : Int) : Int := sI (fun e => if (bt c (n - 1 - (e + 1)) = 1 ↔ bt c (n - (e + 1)) = 1) then 0 else 1) (n - 1)
def btr (F : Int → Int) (n x y : Int) : Bool := decide (apB F n x < apB F n y ∨ (apB F n x = apB F n y ∧ wkB n x < wkB n y))
theorem apB_bd {F : Int → Int} (h : FI F) (ht : 0 < F 2) {n : Int} (hn : 0 ≤ n) (hn8 : n ≤ 8) (c : Int) : 0 ≤ apB F n c ∧ apB F n c ≤ 72 := by
  have := sI_bd (h := apS F n c) (B := 9) (n := n) (fun e _ _ => by have := mOn9 h ht e; unfold apS; split <;> omega) hn
  unfold apB; split <;> omega
theorem sI_01 {h : Int → Int} {n : Int} (hB : ∀ e, 0 ≤ e → e < n → 0 ≤ h e ∧ h e ≤ 1) (hn : 0 ≤ n) : 0 ≤ sI h n ∧ sI h n ≤ n := by
  have h1 := sI_bd (h := h) (B := 1) (n := n) (fun e a b => by have := hB e a b; omega) hn
  have h2 := sI_nn (h := h) (n := n) (fun e a b => (hB e a b).1) hn
  omega
theorem wkB_bd {n : Int} (hn : 1 ≤ n) (c : Int) : 0 ≤ wkB n c ∧ wkB n c ≤ n - 1 := by
  unfold wkB
  exact sI_01 (fun e _ _ => by split <;> omega) (by omega)
theorem pw_8 {n : Int} (h0 : 0 ≤ n) (h : n ≤ 8) : 1 ≤ pw n ∧ pw n ≤ 256 := by
  have := pw_tab h0 h; omega
/-- even: with the turns of a set changed -/
def evS (F : Int → Int) (s d : Int) : Int := if (fOn F d = 1 ↔ bt s (d % F 1) = 1) then -mOn F d else mOn F d
def evB (F : Int → Int) : Nat → Int
  | 0 => -9
  | k + 1 => if sI (evS F k) 24 = 0 ∧ (evB F k = -9 ∨ sI (bt k) 24 < sI (bt (evB F k)) 24) then (k : Int) else evB F k
theorem evB_r (F : Int → Int) (k : Nat) : evB F k = -9 ∨ (0 ≤ evB F k ∧ evB F k < k) := by
  induction k with
  | zero => exact Or.inl rfl
  | succ k ih => unfold evB; split <;> omega
theorem evB_s (F : Int → Int) {t : Int} (h : 0 ≤ t) : evB F (t + 1).toNat = if sI (evS F t) 24 = 0 ∧ (evB F t.toNat = -9 ∨ sI (bt t) 24 < sI (bt (evB F t.toNat)) 24) then t else evB F t.toNat := by
  obtain ⟨n, rfl⟩ := Int.eq_ofNat_of_zero_le h
  rfl
theorem ones_bd (s : Int) : 0 ≤ sI (bt s) 24 ∧ sI (bt s) 24 ≤ 24 := sI_01 (fun e _ _ => by have := bt01 s e; omega) (by omega)
