/-! Bits of small sets: pw i = 2^i, bt s i the i-th bit, as Ints. -/
def pw (i : Int) : Int := 2 ^ i.toNat
def bt (s i : Int) : Int := s / pw i % 2
theorem iI_nI (n : Nat) : iI (n : Int) = nI n := Int32.ofInt_eq_ofNat
theorem pw_N (n : Nat) : pw (n : Int) = ((2 ^ n : Nat) : Int) := by unfold pw; simp
theorem pw_s {i : Int} (h : 0 ≤ i) : pw (i + 1) = 2 * pw i := by
  obtain ⟨n, rfl⟩ := Int.eq_ofNat_of_zero_le h
  show (2 : Int) ^ (n + 1) = 2 * 2 ^ n
  rw [Int.pow_succ]; omega
theorem pw_pos (i : Int) : 0 < pw i := by
  unfold pw; exact Int.pow_pos (by decide)
theorem pw_le {i j : Int} (h0 : 0 ≤ i) (h : i ≤ j) : pw i ≤ pw j := by
  obtain ⟨n, rfl⟩ := Int.eq_ofNat_of_zero_le h0
  obtain ⟨k, rfl⟩ := Int.eq_ofNat_of_zero_le (Int.le_trans h0 h)
  rw [pw_N, pw_N]
  exact_mod_cast Nat.pow_le_pow_right (by decide) (by omega)
theorem pw_31 {i : Int} (h0 : 0 ≤ i) (h : i < 31) : pw i ≤ 1073741824 := by
  have := pw_le h0 (show i ≤ 30 by omega)
  exact this
theorem pw_tab {i : Int} (h0 : 0 ≤ i) (h : i ≤ 8) : (i = 0 ∧ pw i = 1) ∨ (i = 1 ∧ pw i = 2) ∨ (i = 2 ∧ pw i = 4) ∨ (i = 3 ∧ pw i = 8) ∨ (i = 4 ∧ pw i = 16) ∨ (i = 5 ∧ pw i = 32) ∨ (i = 6 ∧ pw i = 64) ∨ (i = 7 ∧ pw i = 128) ∨ (i = 8 ∧ pw i = 256) := by
  rcases (show i = 0 ∨ i = 1 ∨ i = 2 ∨ i = 3 ∨ i = 4 ∨ i = 5 ∨ i = 6 ∨ i = 7 ∨ i = 8 by omega) with rfl | rfl | rfl | rfl | rfl | rfl | rfl | rfl | rfl <;> decide
theorem sh31 : ∀ n, n < 32 → ((nI n &&& 31).toBitVec.smod 32).toNat = n := by decide
theorem shr_bt {s i : Int} (h0 : 0 ≤ s) (hs : s < 2147483648) (hi0 : 0 ≤ i) (hi : i < 32) : iI s >>> (iI i &&& 31) = iI (s / pw i) := by
  obtain ⟨n, rfl⟩ := Int.eq_ofNat_of_zero_le h0
  obtain ⟨k, rfl⟩ := Int.eq_ofNat_of_zero_le hi0
  rw [iI_nI, iI_nI, pk_shrN (by omega) _ k (sh31 k (by omega)), pw_N, ← Int.natCast_ediv, iI_nI]
theorem and_1 {x : Int} (h0 : 0 ≤ x) (hx : x < 2147483648) : iI x &&& iI 1 = iI (x % 2) := by
  obtain ⟨n, rfl⟩ := Int.eq_ofNat_of_zero_le h0
  rw [iI_nI, show iI 1 = (1 : Int32) from rfl, pk_andN (by omega) 1 (by decide), show ((n : Int) % 2) = ((n % 2 ^ 1 : Nat) : Int) by simp, iI_nI]
theorem shl_1 {i : Int} (hi0 : 0 ≤ i) (hi : i < 31) : iI 1 <<< (iI i &&& 31) = iI (pw i) := by
  obtain ⟨k, rfl⟩ := Int.eq_ofNat_of_zero_le hi0
  have hp := pw_31 hi0 hi
  rw [pw_N] at hp
  rw [show iI 1 = nI 1 from rfl, iI_nI, pk_shlN _ k (sh31 k (by omega)) (by omega), pw_N, iI_nI, Nat.one_mul]
theorem nI_or (a b : Nat) : nI a ||| nI b = nI (a ||| b) := by
  apply Int32.toBitVec_inj.mp
  show BitVec.ofNat 32 a ||| BitVec.ofNat 32 b = BitVec.ofNat 32 (a ||| b)
  exact (BitVec.ofNat_or).symm
theorem nI_xor (a b : Nat) : nI a ^^^ nI b = nI (a ^^^ b) := by
  apply Int32.toBitVec_inj.mp
  show BitVec.ofNat 32 a ^^^ BitVec.ofNat 32 b = BitVec.ofNat 32 (a ^^^ b)
  exact (BitVec.ofNat_xor).symm
theorem or_pw {s i : Int} (h0 : 0 ≤ s) (hs : s < pw i) (hi0 : 0 ≤ i) : iI s ||| iI (pw i) = iI (s + pw i) := by
  obtain ⟨n, rfl⟩ := Int.eq_ofNat_of_zero_le h0
  obtain ⟨k, rfl⟩ := Int.eq_ofNat_of_zero_le hi0
  rw [pw_N] at hs ⊢
  have hn : n < 2 ^ k := by omega
  have e : 2 ^ k ||| n = 2 ^ k + n := by
    have := Nat.two_pow_add_eq_or_of_lt hn 1
    rw [Nat.mul_one] at this
    exact this.symm
  rw [iI_nI, iI_nI, nI_or, Nat.or_comm, e, ← iI_nI]
  congr 1
  omega
theorem xor_all {s n : Int} (h0 : 0 ≤ s) (hn0 : 0 ≤ n) (hs : s < pw n) : iI (pw n - 1) ^^^ iI s = iI (pw n - 1 - s) := by
  obtain ⟨k, rfl⟩ := Int.eq_ofNat_of_zero_le h0
  obtain ⟨m, rfl⟩ := Int.eq_ofNat_of_zero_le hn0
  rw [pw_N] at hs ⊢
  have hp : 0 < 2 ^ m := Nat.two_pow_pos m
  have hk : k < 2 ^ m := by omega
  have e : (2 ^ m - 1) ^^^ k = 2 ^ m - 1 - k := by
    apply Nat.eq_of_testBit_eq
    intro i
    rw [Nat.testBit_xor, Nat.testBit_two_pow_sub_one, show 2 ^ m - 1 - k = 2 ^ m - (k + 1) by omega, Nat.testBit_two_pow_sub_succ hk]
    by_cases hi : i < m
    · simp [hi]
    · have : k.testBit i = false := Nat.testBit_lt_two_pow (Nat.lt_of_lt_of_le hk (Nat.pow_le_pow_right (by decide) (by omega)))
      simp [hi, this]
  rw [show (((2 ^ m : Nat) : Int) - 1) = ((2 ^ m - 1 : Nat) : Int) by omega, iI_nI, iI_nI, nI_xor, e, ← iI_nI]
  congr 1
  omega
theorem bt01 (s i : Int) : bt s i = 0 ∨ bt s i = 1 := by unfold bt; omega
/-- the bits of the rest of a set -/
theorem bt_rest {s n i : Int} (h0 : 0 ≤ s) (hs : s < pw n) (hi0 : 0 ≤ i) (hi : i < n) : bt (pw n - 1 - s) i = 1 - bt s i := by
  obtain ⟨k, rfl⟩ := Int.eq_ofNat_of_zero_le h0
  obtain ⟨m, rfl⟩ := Int.eq_ofNat_of_zero_le (Int.le_trans hi0 (Int.le_of_lt hi))
  obtain ⟨j, rfl⟩ := Int.eq_ofNat_of_zero_le hi0
  unfold bt
  rw [pw_N] at hs ⊢
  rw [pw_N]
  have hk : k < 2 ^ m := by omega
  have e1 : ∀ x : Nat, ((x : Int) / ((2 ^ j : Nat) : Int) % 2) = if x.testBit j then 1 else 0 := by
    intro x
    rw [← Int.natCast_ediv, show ((x / 2 ^ j : Nat) : Int) % 2 = ((x / 2 ^ j % 2 : Nat) : Int) by simp]
    rw [Nat.testBit_eq_decide_div_mod_eq]
    rcases Nat.mod_two_eq_zero_or_one (x / 2 ^ j) with h | h <;> simp [h]
  rw [show (((2 ^ m : Nat) : Int) - 1 - (k : Int)) = ((2 ^ m - (k + 1) : Nat) : Int) by omega, e1, e1, Nat.testBit_two_pow_sub_succ hk]
  have hj : j < m := by omega
  cases k.testBit j <;> simp [hj]
theorem bt_add {s n i : Int} (h0 : 0 ≤ s) (hs : s < pw n) (hn0 : 0 ≤ n) (hi0 : 0 ≤ i) (hi : i < n) : bt (s + pw n) i = bt s i := by
  obtain ⟨m, rfl⟩ := Int.eq_ofNat_of_zero_le hn0
  obtain ⟨j, rfl⟩ := Int.eq_ofNat_of_zero_le hi0
  unfold bt
  have hj : j < m := by omega
  obtain ⟨d, rfl⟩ : ∃ d, m = j + 1 + d := ⟨m - (j + 1), by omega⟩
  have e : pw ((j + 1 + d : Nat) : Int) = pw (j : Int) * (2 * 2 ^ d) := by
    unfold pw
    simp only [Int.toNat_natCast]
    rw [Int.pow_add, Int.pow_succ, Int.mul_assoc]
  rw [e, Int.add_mul_ediv_left _ _ (by have := pw_pos (j : Int); omega)]
  have : (s / pw (j : Int) + 2 * 2 ^ d) % 2 = (s / pw (j : Int)) % 2 := by rw [Int.add_mul_emod_self_left]
  exact this
theorem bt_hi {s n : Int} (h0 : 0 ≤ s) (hs : s < pw n) : bt (s + pw n) n = 1 ∧ bt s n = 0 := by
  have hp := pw_pos n
  unfold bt
  constructor
  · rw [show s + pw n = s + pw n * 1 by omega, Int.add_mul_ediv_left _ _ (by omega), Int.ediv_eq_zero_of_lt h0 hs]; rfl
  · rw [Int.ediv_eq_zero_of_lt h0 hs]; rfl
theorem sI_mono {h : Int → Int} {t n : Int} (h0 : 0 ≤ t) (hn : t ≤ n) (hp : ∀ e, 0 ≤ e → e < n → 0 ≤ h e) : sI h t ≤ sI h n := by
  obtain ⟨k, rfl⟩ : ∃ k : Nat, n = t + k := ⟨(n - t).toNat, by omega⟩
  clear hn
  induction k with
  | zero => simp
  | succ k ih =>
    have h1 := ih (fun e a b => hp e a (by omega))
    have h2 := hp (t + k) (by omega) (by omega)
    have e : sI h (t + ((k + 1 : Nat) : Int)) = sI h (t + (k : Int)) + h (t + k) := by
      rw [show t + ((k + 1 : Nat) : Int) = t + (k : Int) + 1 by omega, sI_s _ (by omega)]
    omega
/-- a farm's beasts as a set -/
def so (F : Int → Int) (q n : Int) : Int := sI (fun i => if F (20 + 3 * i + 2) = q then pw i else 0) n
theorem so_s (F : Int → Int) (q : Int) {n : Int} (h : 0 ≤ n) : so F q (n + 1) = so F q n + if F (20 + 3 * n + 2) = q then pw n else 0 := sI_s _ h
theorem so_bd (F : Int → Int) (q : Int) {n : Int} (h : 0 ≤ n) : 0 ≤ so F q n ∧ so F q n < pw n := by
  obtain ⟨k, rfl⟩ := Int.eq_ofNat_of_zero_le h
  induction k with
  | zero => exact ⟨Int.le_refl 0, show (0 : Int) < 1 by decide⟩
  | succ k ih =>
    have h1 := ih (by omega)
    have e := so_s F q (n := (k : Int)) (by omega)
    have e2 := pw_s (i := (k : Int)) (by omega)
    rw [show ((k + 1 : Nat) : Int) = (k : Int) + 1 by omega, e, e2]
    have := pw_pos (k : Int)
    split <;> omega
theorem so_bt (F : Int → Int) (q : Int) {n i : Int} (hi : 0 ≤ i) (hn : i < n) : bt (so F q n) i = if F (20 + 3 * i + 2) = q then 1 else 0 := by
  obtain ⟨k, rfl⟩ : ∃ k : Nat, n = i + 1 + k := ⟨(n - i - 1).toNat, by omega⟩
  clear hn
  induction k with
  | zero =>
    have hb := so_bd F q hi
    rw [show i + 1 + ((0 : Nat) : Int) = i + 1 by omega, so_s F q hi]
    split
    · exact (bt_hi hb.1 hb.2).1
    · rw [Int.add_zero]; exact (bt_hi hb.1 hb.2).2
  | succ k ih =>
    rw [show i + 1 + ((k + 1 : Nat) : Int) = i + 1 + (k : Int) + 1 by omega, so_s F q (by omega)]
    have hb := so_bd F q (n := i + 1 + (k : Int)) (by omega)
    split
    · rw [bt_add hb.1 hb.2 (by omega) hi (by omega)]; exact ih
    · rw [Int.add_zero]; exact ih
abbrev vT (F : Int → Int) (i farm : Int) : Int := vTo (F (20 + 3 * i)) (F (20 + 3 * i + 1)) farm
/-- the VALUE to a FARM of those BEASTS whose bit in s is b -/
def VB (F : Int → Int) (s b farm : Int) : Int := sI (fun i => if bt s i = b then vT F i farm else 0) (F 0)
theorem vT_bd {F : Int → Int} (h : FI F) {i : Int} (h0 : 0 ≤ i) (h1 : i < F 0) {q : Int} (hq : 0 ≤ q ∧ q ≤ 1) : 0 ≤ vT F i q ∧ vT F i q ≤ 36 := by
  have := h.b h0 h1
  unfold vT vTo; repeat' split
  all_goals omega
theorem VB_bd {F : Int → Int} (h : FI F) (s b : Int) {q : Int} (hq : 0 ≤ q ∧ q ≤ 1) : 0 ≤ VB F s b q ∧ VB F s b q ≤ 216 := by
  have hn := h.n
  have h1 := sI_bd (h := fun i => if bt s i = b then vT F i q else 0) (B := 36) (n := F 0) (fun e a c => by
    have := vT_bd h a c hq
    split <;> omega) (by omega)
  have h2 := sI_nn (h := fun i => if bt s i = b then vT F i q else 0) (n := F 0) (fun e a c => by
    have := vT_bd h a c hq
    split <;> omega) (by omega)
  exact ⟨h2, by unfold VB; omega⟩
theorem VB_rest {F : Int → Int} {s : Int} (h0 : 0 ≤ s) (hs : s < pw (F 0)) (hF : 0 ≤ F 0) (q : Int) : VB F (pw (F 0) - 1 - s) 1 q = VB F s 0 q := by
  unfold VB
  refine sI_cg (fun e a c => ?_) hF
  have := bt_rest h0 hs a c
  rw [this]
  have := bt01 s e
  by_cases hb : bt s e = 0
  · rw [if_pos (by omega), if_pos hb]
  · rw [if_neg (by omega), if_neg hb]
/-- DEEDS of the class: written down, undone -/
def wd (g : Mm) (f k t : Int) : Mm := mu (mu (mu g (46 + f) (g (26 + f) 8) k) (51 + f) (g (26 + f) 8) t) (26 + f) 8 (g (26 + f) 8 + 1)
def un1 (g : Mm) (f k t : Int) : Mm := if k = 0 then mu g (26 + f) 9 (g (26 + f) 9 - 1) else if k = 2 then mu g (26 + f) 10 (g (26 + f) 10 - t) else if 0 ≤ t ∧ t < 6 then mu g (56 + 6 * f + t) 2 (1 - g (56 + 6 * f + t) 2) else g
def unN (g : Mm) (f dc : Int) : Nat → Mm
  | 0 => g
  | c + 1 => mu (un1 (unN g f dc c) f (unN g f dc c (46 + f) (dc - 1 - c)) (unN g f dc c (51 + f) (dc - 1 - c))) (26 + f) 8 (dc - 1 - c)
