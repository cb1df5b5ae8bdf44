/-! Books: sets of turns against all turns tried. -/
theorem bt_N (x j : Nat) : bt (x : Int) (j : Int) = if x.testBit j then 1 else 0 := by
  unfold bt
  rw [pw_N, ← Int.natCast_ediv, show ((x / 2 ^ j : Nat) : Int) % 2 = ((x / 2 ^ j % 2 : Nat) : Int) by simp]
  rw [Nat.testBit_eq_decide_div_mod_eq]
  rcases Nat.mod_two_eq_zero_or_one (x / 2 ^ j) with h | h <;> simp [h]
theorem bt_or {x y j : Int} (hx : 0 ≤ x) (hy : 0 ≤ y) (hj : 0 ≤ j) : bt (or2 x y) j = 1 ↔ bt x j = 1 ∨ bt y j = 1 := by
  obtain ⟨a, rfl⟩ := Int.eq_ofNat_of_zero_le hx
  obtain ⟨b, rfl⟩ := Int.eq_ofNat_of_zero_le hy
  obtain ⟨k, rfl⟩ := Int.eq_ofNat_of_zero_le hj
  unfold or2
  simp only [Int.toNat_natCast]
  rw [bt_N, bt_N, bt_N, Nat.testBit_or]
  cases a.testBit k <;> cases b.testBit k <;> simp
theorem bt_ad {x y j : Int} (hx : 0 ≤ x) (hy : 0 ≤ y) (hj : 0 ≤ j) : bt (ad x y) j = 1 ↔ bt x j = 1 ∧ bt y j = 1 := by
  obtain ⟨a, rfl⟩ := Int.eq_ofNat_of_zero_le hx
  obtain ⟨b, rfl⟩ := Int.eq_ofNat_of_zero_le hy
  obtain ⟨k, rfl⟩ := Int.eq_ofNat_of_zero_le hj
  unfold ad
  simp only [Int.toNat_natCast]
  rw [bt_N, bt_N, bt_N, Nat.testBit_and]
  cases a.testBit k <;> cases b.testBit k <;> simp
theorem bt_pw {i j : Int} (hi : 0 ≤ i) (hj : 0 ≤ j) : bt (pw i) j = 1 ↔ j = i := by
  obtain ⟨a, rfl⟩ := Int.eq_ofNat_of_zero_le hi
  obtain ⟨k, rfl⟩ := Int.eq_ofNat_of_zero_le hj
  rw [pw_N, bt_N, Nat.testBit_two_pow]
  by_cases h : a = k
  · simp [h]
  · have h2 : ¬ (k : Int) = (a : Int) := by omega
    simp [h, h2]
theorem bt_big {s n j : Int} (h0 : 0 ≤ s) (hs : s < pw n) (hn : 0 ≤ n) (hj : n ≤ j) : bt s j = 0 := by
  have := pw_le (i := n) (j := j) hn hj
  exact bt_0 h0 (by omega)
theorem ad_0 {x y : Int} (hx : 0 ≤ x) (hy : 0 ≤ y) : ad x y = 0 ↔ ∀ j, 0 ≤ j → ¬ (bt x j = 1 ∧ bt y j = 1) := by
  constructor
  · intro h j hj z
    have := (bt_ad hx hy hj).mpr z
    rw [h] at this
    have e : bt 0 j = 0 := bt_0 (by decide) (pw_pos j)
    omega
  · intro h
    obtain ⟨a, rfl⟩ := Int.eq_ofNat_of_zero_le hx
    obtain ⟨b, rfl⟩ := Int.eq_ofNat_of_zero_le hy
    unfold ad
    simp only [Int.toNat_natCast]
    have e : a &&& b = 0 := by
      apply Nat.eq_of_testBit_eq
      intro k
      rw [Nat.testBit_and, Nat.zero_testBit]
      have := h (k : Int) (by omega)
      rw [bt_N, bt_N] at this
      cases ha : a.testBit k <;> cases hb : b.testBit k <;> simp_all
    rw [e]; rfl
theorem tb_bt (D E : Int → Int) {n q : Int} (hn : 1 ≤ n) {j : Int} (hj : 0 ≤ j) : ∀ N : Nat, bt (tb D E n q N) j = 1 ↔ ∃ k : Int, 0 ≤ k ∧ k < N ∧ E k = q ∧ D k % n = j
  | 0 => by
    have e : bt 0 j = 0 := bt_0 (by decide) (pw_pos j)
    show bt 0 j = 1 ↔ _
    constructor
    · intro h; omega
    · rintro ⟨k, a, b, _⟩; omega
  | N + 1 => by
    have ih := tb_bt D E (q := q) hn hj N
    have hb := tb_bd D E (n := n) (q := q) hn N
    have hm := emd (d := D (N : Int)) (n := n) (by omega)
    have hp := pw_pos (D (N : Int) % n)
    show bt (if E (N : Int) = q then or2 (tb D E n q N) (pw (D (N : Int) % n)) else tb D E n q N) j = 1 ↔ _
    by_cases h : E (N : Int) = q
    · rw [if_pos h, bt_or hb.1 (by omega) hj, ih, bt_pw hm.1 hj]
      constructor
      · rintro (⟨k, a, b, c, d⟩ | z)
        · exact ⟨k, a, by omega, c, d⟩
        · exact ⟨(N : Int), by omega, by omega, h, z.symm⟩
      · rintro ⟨k, a, b, c, d⟩
        by_cases hk : k = (N : Int)
        · rw [hk] at d; exact Or.inr d.symm
        · exact Or.inl ⟨k, a, by omega, c, d⟩
    · rw [if_neg h, ih]
      constructor
      · rintro ⟨k, a, b, c, d⟩; exact ⟨k, a, by omega, c, d⟩
      · rintro ⟨k, a, b, c, d⟩
        by_cases hk : k = (N : Int)
        · rw [hk] at c; exact absurd c h
        · exact ⟨k, a, by omega, c, d⟩
theorem sI_0i {h : Int → Int} {n : Int} (hn : 0 ≤ n) (hp : ∀ e, 0 ≤ e → e < n → 0 ≤ h e) : sI h n = 0 ↔ ∀ e, 0 ≤ e → e < n → h e = 0 := by
  constructor
  · intro h0 e a b
    have := hp e a b
    exact Classical.byContradiction (fun z => sI_pos a b hp (by omega) h0)
  · intro h0
    have e : sI h n = sI (fun _ => 0) n := sI_cg h0 hn
    have := sI_bd (h := fun _ => (0 : Int)) (B := 0) (n := n) (fun _ _ _ => ⟨by omega, by omega⟩) hn
    omega
/-- turns s against bits that must be 0 (z) or 1 (o) -/
def bd (z o : Int → Int) (s j : Int) : Int := if (o j = 1 ∧ bt s j = 0) ∨ (z j = 1 ∧ bt s j = 1) then 1 else 0
theorem bd_01 (z o : Int → Int) (s j : Int) : 0 ≤ bd z o s j ∧ bd z o s j ≤ 1 := by unfold bd; split <;> omega
def cN (z o : Int → Int) (n : Int) : Int := sI (fun s => if sI (bd z o s) n = 0 then 1 else 0) (pw n)
theorem sI_app {h : Int → Int} {m k : Int} (hm : 0 ≤ m) (hk : 0 ≤ k) : sI h (m + k) = sI h m + sI (fun s => h (s + m)) k := by
  obtain ⟨n, rfl⟩ := Int.eq_ofNat_of_zero_le hk
  induction n with
  | zero => rw [show m + ((0 : Nat) : Int) = m by omega]; show _ = sI h m + 0; omega
  | succ n ih =>
    rw [show m + ((n + 1 : Nat) : Int) = m + (n : Int) + 1 by omega, sI_s _ (by omega), ih (by omega), show ((n + 1 : Nat) : Int) = (n : Int) + 1 by omega, sI_s _ (by omega), show (n : Int) + m = m + (n : Int) by omega]
    omega
theorem sI_cm {h : Int → Int} {n c : Int} (hn : 0 ≤ n) : sI (fun s => h s * c) n = sI h n * c := by
  obtain ⟨m, rfl⟩ := Int.eq_ofNat_of_zero_le hn
  induction m with
  | zero => show (0 : Int) = 0 * c; omega
  | succ m ih => rw [show ((m + 1 : Nat) : Int) = (m : Int) + 1 by omega, sI_s _ (by omega), sI_s _ (by omega), ih (by omega), Int.add_mul]
def uu (z o : Int → Int) (j : Int) : Int := (if o j = 1 then 0 else 1) + (if z j = 1 then 0 else 1)
theorem cN_s {z o : Int → Int} {n : Int} (hn : 0 ≤ n) : cN z o (n + 1) = cN z o n * uu z o n := by
  have hp := pw_pos n
  unfold cN uu
  rw [pw_s hn, show 2 * pw n = pw n + pw n by omega, sI_app (by omega) (by omega), Int.mul_add, ← sI_cm (by omega), ← sI_cm (by omega)]
  congr 1
  · refine sI_cg (fun s a b => ?_) (by omega)
    have nn := sI_nn (h := bd z o s) (n := n) (fun e _ _ => (bd_01 z o s e).1) hn
    have e : bd z o s n = if o n = 1 then 1 else 0 := by
      unfold bd; rw [bt_0 a b]
      by_cases h : o n = 1 <;> simp [h]
    rw [sI_s _ hn, e]
    by_cases h : o n = 1
    · rw [if_pos h, if_pos h, if_neg (by omega)]; omega
    · rw [if_neg h, if_neg h, Int.add_zero]; omega
  · refine sI_cg (fun s a b => ?_) (by omega)
    have e0 : sI (bd z o (s + pw n)) n = sI (bd z o s) n := sI_cg (fun j x y => by unfold bd; rw [bt_add a b hn x y]) hn
    have nn := sI_nn (h := bd z o s) (n := n) (fun e _ _ => (bd_01 z o s e).1) hn
    have e : bd z o (s + pw n) n = if z n = 1 then 1 else 0 := by
      unfold bd; rw [(bt_hi a b).1]
      by_cases h : z n = 1 <;> simp [h]
    rw [sI_s _ hn, e0, e]
    by_cases h : z n = 1
    · rw [if_pos h, if_pos h, if_neg (by omega)]; omega
    · rw [if_neg h, if_neg h, Int.add_zero]; omega
theorem cN_v {z o : Int → Int} : ∀ n : Nat, ((∃ j, 0 ≤ j ∧ j < (n : Int) ∧ z j = 1 ∧ o j = 1) → cN z o n = 0) ∧ ((∀ j, 0 ≤ j → j < (n : Int) → ¬ (z j = 1 ∧ o j = 1)) → cN z o n = pw (n - sI (fun j => if z j = 1 ∨ o j = 1 then 1 else 0) n) ∧ sI (fun j => if z j = 1 ∨ o j = 1 then 1 else 0) n ≤ n)
  | 0 => ⟨fun ⟨j, a, b, _⟩ => by omega, fun _ => ⟨rfl, Int.le_refl 0⟩⟩
  | n + 1 => by
    obtain ⟨i1, i2⟩ := cN_v (z := z) (o := o) n
    have e := cN_s (z := z) (o := o) (n := (n : Int)) (by omega)
    have es : sI (fun j => if z j = 1 ∨ o j = 1 then 1 else 0) ((n : Int) + 1) = sI (fun j => if z j = 1 ∨ o j = 1 then 1 else 0) (n : Int) + if z (n : Int) = 1 ∨ o (n : Int) = 1 then 1 else 0 := sI_s _ (by omega)
    rw [show ((n + 1 : Nat) : Int) = (n : Int) + 1 by omega, e, es]
    constructor
    · rintro ⟨j, a, b, c, d⟩
      by_cases hj : j = (n : Int)
      · subst hj
        have : uu z o (n : Int) = 0 := by unfold uu; rw [if_pos d, if_pos c]; rfl
        rw [this, Int.mul_zero]
      · rw [i1 ⟨j, a, by omega, c, d⟩, Int.zero_mul]
    · intro h
      obtain ⟨k1, k2⟩ := i2 (fun j a b => h j a (by omega))
      have hn := h (n : Int) (by omega) (by omega)
      rw [k1]
      by_cases hz : z (n : Int) = 1
      · have ho : ¬ o (n : Int) = 1 := fun y => hn ⟨hz, y⟩
        have : uu z o (n : Int) = 1 := by unfold uu; rw [if_neg ho, if_pos hz]; rfl
        rw [this, if_pos (Or.inl hz), Int.mul_one]
        exact ⟨by congr 1; omega, by omega⟩
      · by_cases ho : o (n : Int) = 1
        · have : uu z o (n : Int) = 1 := by unfold uu; rw [if_pos ho, if_neg hz]; rfl
          rw [this, if_pos (Or.inr ho), Int.mul_one]
          exact ⟨by congr 1; omega, by omega⟩
        · have : uu z o (n : Int) = 2 := by unfold uu; rw [if_neg ho, if_neg hz]; rfl
          rw [this, if_neg (fun y => y.elim hz ho), Int.add_zero]
          refine ⟨?_, by omega⟩
          rw [Int.mul_comm, ← pw_s (by omega)]
          congr 1; omega
theorem bits_sum {s : Int} (h0 : 0 ≤ s) : ∀ n : Nat, s < pw n → s = sI (fun j => bt s j * pw j) n
  | 0, h => by
    have : pw ((0 : Nat) : Int) = 1 := rfl
    show s = 0; omega
  | n + 1, h => by
    rw [show ((n + 1 : Nat) : Int) = (n : Int) + 1 by omega, pw_s (by omega)] at h
    rw [show ((n + 1 : Nat) : Int) = (n : Int) + 1 by omega, sI_s _ (by omega)]
    by_cases hs : s < pw n
    · rw [bt_0 h0 hs, Int.zero_mul, Int.add_zero]; exact bits_sum h0 n hs
    · have h1 : 0 ≤ s - pw n := by omega
      have h2 : s - pw n < pw n := by omega
      have e1 : bt s n = 1 := by have := (bt_hi h1 h2).1; rw [Int.sub_add_cancel] at this; exact this
      have e2 : sI (fun j => bt s j * pw j) (n : Int) = sI (fun j => bt (s - pw n) j * pw j) (n : Int) := sI_cg (fun j a b => by
        have := bt_add (s := s - pw n) (n := (n : Int)) (i := j) h1 h2 (by omega) a b
        rw [Int.sub_add_cancel] at this; show bt s j * pw j = bt (s - pw n) j * pw j; rw [this]) (by omega)
      rw [e1, Int.one_mul, e2, ← bits_sum h1 n h2]; omega
theorem bits_le {x y : Int} (hx : 0 ≤ x) (hy : 0 ≤ y) {n : Nat} (hx2 : x < pw n) (hy2 : y < pw n) (h : ∀ j, 0 ≤ j → j < (n : Int) → bt x j = 1 → bt y j = 1) : x ≤ y := by
  rw [bits_sum hx n hx2, bits_sum hy n hy2]
  have key : ∀ m : Nat, m ≤ n → sI (fun j => bt x j * pw j) m ≤ sI (fun j => bt y j * pw j) m := by
    intro m
    induction m with
    | zero => intro _; exact Int.le_refl 0
    | succ m ih =>
      intro hm
      have := ih (by omega)
      rw [show ((m + 1 : Nat) : Int) = (m : Int) + 1 by omega, sI_s _ (by omega), sI_s _ (by omega)]
      have hp := pw_pos (m : Int)
      have hm2 := h (m : Int) (by omega) (by omega)
      rcases bt01 x (m : Int) with a | a <;> rcases bt01 y (m : Int) with b | b
      · rw [a, b]; omega
      · rw [a, b]; omega
      · have := hm2 a; omega
      · rw [a, b]; omega
  exact key n (Nat.le_refl n)
/-- the first of them -/
theorem ft1_no {h : Mm} {r n : Int} : ∀ m : Nat, (∀ s, 0 ≤ s → s < (m : Int) → ¬ ftP h r n s) → ft1 h r n m = -9
  | 0, _ => rfl
  | m + 1, H => by
    have ih := ft1_no m (fun s a b => H s a (by omega))
    show (if ft1 h r n m = -9 then (if ftP h r n (m : Int) then (m : Int) else -9) else ft1 h r n m) = -9
    rw [if_pos ih, if_neg (H m (by omega) (by omega))]
theorem ft1_is {h : Mm} {r n s0 : Int} (h0 : 0 ≤ s0) (hf : ftP h r n s0) (hl : ∀ s, 0 ≤ s → s < s0 → ¬ ftP h r n s) : ∀ m : Nat, s0 < m → ft1 h r n m = s0
  | 0, hm => by omega
  | m + 1, hm => by
    show (if ft1 h r n m = -9 then (if ftP h r n (m : Int) then (m : Int) else -9) else ft1 h r n m) = s0
    by_cases e : s0 = (m : Int)
    · rw [if_pos (ft1_no m (fun s a b => hl s a (by omega))), ← e, if_pos hf]
    · rw [ft1_is h0 hf hl m (by omega), if_neg (by omega)]
