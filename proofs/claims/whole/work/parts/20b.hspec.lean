/-! Heirs, calves, bills, books, chances, lots. -/
def m3 (g : Mm) (x y z : Int) : Mm := mu (mu (mu g 11 0 x) 11 1 y) 11 2 z
theorem m3_self (g : Mm) : m3 g (g 11 0) (g 11 1) (g 11 2) = g := by unfold m3; rw [mu_self, mu_self, mu_self]
theorem m3_m3 (g : Mm) (x y z x' y' z' : Int) : mu (mu (mu (m3 g x y z) 11 0 x') 11 1 y') 11 2 z' = m3 g x' y' z' := by
  funext p j; unfold m3 mu
  by_cases hp : p = 11
  · by_cases h0 : j = 0 <;> by_cases h1 : j = 1 <;> by_cases h2 : j = 2 <;> simp [hp, h0, h1, h2]
  · simp [hp]
theorem m3_r (g : Mm) (x y z : Int) : m3 g x y z 11 0 = x ∧ m3 g x y z 11 1 = y ∧ m3 g x y z 11 2 = z := by unfold m3 mu; simp
theorem m3_o {g : Mm} {x y z p : Int} (h : p ≠ 11) : m3 g x y z p = g p := by unfold m3; rw [mu_ne h, mu_ne h, mu_ne h]
theorem m3_add (g : Mm) (x y z v k : Int) (hk : k = 0 ∨ k = 1 ∨ k = 2) : mu (m3 g x y z) 11 k (m3 g x y z 11 k + v) = m3 g (x + if k = 0 then v else 0) (y + if k = 1 then v else 0) (z + if k = 2 then v else 0) := by
  have hr := m3_r g x y z
  rcases hk with rfl | rfl | rfl
  · rw [hr.1]; funext p j; unfold m3 mu; by_cases hp : p = 11 <;> by_cases h0 : j = 0 <;> by_cases h1 : j = 1 <;> by_cases h2 : j = 2 <;> simp [hp, h0, h1, h2]
  · rw [hr.2.1]; funext p j; unfold m3 mu; by_cases hp : p = 11 <;> by_cases h0 : j = 0 <;> by_cases h1 : j = 1 <;> by_cases h2 : j = 2 <;> simp [hp, h0, h1, h2]
  · rw [hr.2.2]; funext p j; unfold m3 mu; by_cases hp : p = 11 <;> by_cases h0 : j = 0 <;> by_cases h1 : j = 1 <;> by_cases h2 : j = 2 <;> simp [hp, h0, h1, h2]
/-- calves -/
abbrev MM (F : Int → Int) (q d : Int) : Int := sI (fun x => mf F q (0 + x)) (d + 1 - 0)
def wkP (F : Int → Int) (k : Int) : Bool := decide (¬ fOn F k = fOn F (k - 1))
def cw3 (F : Int → Int) (d : Int) : Int := if ff (wkP F) 9 (d + 1) = -1 then -9 else fOn F (ff (wkP F) 9 (d + 1))
def cf (F : Int → Int) (d q : Int) : Int := if q = 0 then fOn F d else if q = 1 then fOn F (if d = 0 then 0 else d - 1) else if q = 2 then (if MM F 0 d < MM F 1 d then 1 else 0) else cw3 F d
def qrP (F : Int → Int) (x y k : Int) : Bool := decide (¬ cf F k x = cf F k y)
theorem MM_bd {F : Int → Int} (h : FI F) (ht : 0 < F 2) (q : Int) {d : Int} (hd : 0 ≤ d) (hd2 : d ≤ 1010) : 0 ≤ MM F q d ∧ MM F q d ≤ 9099 := by
  have a1 := sI_bd (h := fun x => mf F q (0 + x)) (B := 9) (n := d + 1 - 0) (fun e _ _ => by have := mf9 h ht q (0 + e); omega) (by omega)
  have a2 := sI_nn (h := fun x => mf F q (0 + x)) (n := d + 1 - 0) (fun e _ _ => (mf9 h ht q (0 + e)).1) (by omega)
  unfold MM; omega
theorem cf_r {F : Int → Int} (h : FI F) (ht : 0 < F 1) (d q : Int) : cf F d q = -9 ∨ cf F d q = 0 ∨ cf F d q = 1 := by
  have a := fOn01 h ht d
  have b := fOn01 h ht (if d = 0 then 0 else d - 1)
  have c := fOn01 h ht (ff (wkP F) 9 (d + 1))
  unfold cf
  split
  · exact Or.inr a
  · split
    · exact Or.inr b
    · split
      · split <;> omega
      · unfold cw3
        split
        · exact Or.inl rfl
        · exact Or.inr c
/-- a book: its pairs, what is wrong in it, which turns fit -/
def bkD (g : Mm) (r k : Int) : Int := g 2 (40 * r + 2 * k)
def bkF (g : Mm) (r k : Int) : Int := g 2 (40 * r + 2 * k + 1)
def bkW (g : Mm) (r k : Int) : Int := if (0 ≤ bkD g r k ∧ bkD g r k ≤ 999) ∧ (0 ≤ bkF g r k ∧ bkF g r k ≤ 1) then 0 else 1
def wrg (g : Mm) (r : Int) : Int := if g 1 r < 0 then 1 else if g 1 r % 2 = 1 then 5 else if sI (bkW g r) (g 1 r / 2) = 0 then 0 else 3
def ftS (g : Mm) (r n s k : Int) : Int := if bt s (bkD g r k % n) = bkF g r k then 0 else 1
abbrev ftP (g : Mm) (r n s : Int) : Prop := sI (ftS g r n s) (g 1 r / 2) = 0
def ftN (g : Mm) (r n k : Int) : Int := sI (fun s => if ftP g r n s then 1 else 0) k
def ft1 (g : Mm) (r n : Int) : Nat → Int
  | 0 => -9
  | k + 1 => if ft1 g r n k = -9 then (if ftP g r n k then (k : Int) else -9) else ft1 g r n k
def ft0 (g : Mm) (r n d b k : Int) : Int := sI (fun s => if ftP g r n s ∧ bt s (d % n) = b then 1 else 0) k
theorem bkW_01 (g : Mm) (r k : Int) : 0 ≤ bkW g r k ∧ bkW g r k ≤ 1 := by unfold bkW; split <;> omega
theorem ftS_01 (g : Mm) (r n s k : Int) : 0 ≤ ftS g r n s k ∧ ftS g r n s k ≤ 1 := by unfold ftS; split <;> omega
theorem bk_ok {g : Mm} {r : Int} (h : wrg g r = 0) {k : Int} (h0 : 0 ≤ k) (h1 : k < g 1 r / 2) : (0 ≤ bkD g r k ∧ bkD g r k ≤ 999) ∧ (0 ≤ bkF g r k ∧ bkF g r k ≤ 1) := by
  have hs : sI (bkW g r) (g 1 r / 2) = 0 := by
    unfold wrg at h
    split at h
    · omega
    · split at h
      · omega
      · split at h
        · assumption
        · omega
  have a := sI_mono (h := bkW g r) (t := k + 1) (n := g 1 r / 2) (by omega) (by omega) (fun e _ _ => (bkW_01 g r e).1)
  have b := sI_nn (h := bkW g r) (n := k) (fun e _ _ => (bkW_01 g r e).1) h0
  rw [sI_s _ h0] at a
  have c := bkW_01 g r k
  have d : bkW g r k = 0 := by omega
  unfold bkW at d
  split at d
  · assumption
  · omega
theorem ft1_s {g : Mm} {r n t : Int} (h : 0 ≤ t) : ft1 g r n (t + 1).toNat = if ft1 g r n t.toNat = -9 then (if ftP g r n t then t else -9) else ft1 g r n t.toNat := by
  obtain ⟨k, rfl⟩ := Int.eq_ofNat_of_zero_le h
  rfl
theorem ft1_N {g : Mm} {r n t : Int} (h : 0 ≤ t) : (ftN g r n t = 0 ↔ ft1 g r n t.toNat = -9) ∧ (ft1 g r n t.toNat = -9 ∨ (0 ≤ ft1 g r n t.toNat ∧ ft1 g r n t.toNat < t)) ∧ 0 ≤ ftN g r n t ∧ ftN g r n t ≤ t := by
  obtain ⟨k, rfl⟩ := Int.eq_ofNat_of_zero_le h
  induction k with
  | zero => exact ⟨⟨fun _ => rfl, fun _ => rfl⟩, Or.inl rfl, Int.le_refl 0, Int.le_refl 0⟩
  | succ k ih =>
    have ih := ih (by omega)
    have e1 : ftN g r n ((k : Int) + 1) = ftN g r n (k : Int) + if ftP g r n (k : Int) then 1 else 0 := sI_s _ (by omega)
    have e2 := ft1_s (g := g) (r := r) (n := n) (t := (k : Int)) (by omega)
    rw [show ((k + 1 : Nat) : Int) = (k : Int) + 1 by omega, e1, e2]
    by_cases hp : ftP g r n (k : Int)
    · rw [if_pos hp, if_pos hp]; split <;> omega
    · rw [if_neg hp, if_neg hp]; split <;> omega
/-- chances -/
def pr (b : Int) : Nat → Int
  | 0 => 1
  | k + 1 => pr b k * b
def od (F : Int → Int) (q p : Int) : Nat → Int
  | 0 => 0
  | k + 1 => od F q p k * 12 + if fOn F (F 3 + k) = q then pr (12 - p) k * p else 0
theorem od_bd {F : Int → Int} {q p : Int} (hp : 0 ≤ p) (hp2 : p ≤ 12) (k : Nat) : 0 ≤ od F q p k ∧ 0 ≤ pr (12 - p) k ∧ od F q p k + pr (12 - p) k ≤ pr 12 k := by
  induction k with
  | zero => exact ⟨Int.le_refl 0, (by decide : (0 : Int) ≤ 1), (by decide : (0 : Int) + 1 ≤ 1)⟩
  | succ k ih =>
    obtain ⟨a, b, c⟩ := ih
    have e1 : od F q p (k + 1) = od F q p k * 12 + if fOn F (F 3 + k) = q then pr (12 - p) k * p else 0 := rfl
    have e2 : pr (12 - p) (k + 1) = pr (12 - p) k * (12 - p) := rfl
    have e3 : pr 12 (k + 1) = pr 12 k * 12 := rfl
    have h1 : 0 ≤ pr (12 - p) k * p := Int.mul_nonneg b hp
    have h2 : 0 ≤ pr (12 - p) k * (12 - p) := Int.mul_nonneg b (by omega)
    have h3 : pr (12 - p) k * (12 - p) = pr (12 - p) k * 12 - pr (12 - p) k * p := Int.mul_sub ..
    rw [e1, e2, e3]
    refine ⟨?_, h2, ?_⟩
    · split <;> omega
    · split <;> omega
theorem pr12 : ∀ k : Fin 9, 0 < pr 12 k.val ∧ pr 12 k.val ≤ 429981696 := by decide +kernel
/-- lots -/
def lx (s : Int) : Nat → Int
  | 0 => s
  | k + 1 => lx s k * 48271 % 2147483647
def lot1 (F : Int → Int) (x : Int) : Int → Int := if x % 3 = 1 then doF F (1 + x / 8 % F 0) else if x % 3 = 2 then doF F (100 + 100 * (x / 16 % 2) + x / 64 % 9 + 1) else if F 3 < 999 then doF F 0 else F
def lF (F : Int → Int) (s : Int) : Nat → Int → Int
  | 0 => F
  | k + 1 => lot1 (lF F s k) (lx s (k + 1))
theorem lx_bd {s : Int} (h : 1 ≤ s) (h2 : s < 2147483647) (k : Nat) : 0 ≤ lx s k ∧ lx s k < 2147483647 := by
  induction k with
  | zero => exact ⟨by show 0 ≤ s; omega, h2⟩
  | succ k ih => unfold lx; omega
/-- deeds keep what holds of farms -/
theorem dSum_cg {h F F' : Int → Int} {n : Nat} (e : ∀ k : Int, 0 ≤ k → k < n → F (38 + k) = F' (38 + k)) : dSum h F n = dSum h F' n := by
  induction n with
  | zero => rfl
  | succ n ih =>
    show dSum h F n + _ = dSum h F' n + _
    rw [ih (fun k a b => e k a (by omega)), e n (by omega) (by omega)]
theorem doF_v {F : Int → Int} (hI : FI F) {w : Int} (hw : dOk w) (h4 : F 4 < 60) :
    doF F w 0 = F 0 ∧ doF F w 1 = F 1 ∧ doF F w 2 = F 2 ∧ doF F w 3 = F 3 + dDay w ∧ doF F w 4 = F 4 + 1 ∧ doF F w 5 = F 5 + dNet w ∧
    (∀ j, 6 ≤ j → j < 20 → doF F w j = F j) ∧ (∀ i, 0 ≤ i → i < 6 → doF F w (20 + 3 * i) = F (20 + 3 * i) ∧ doF F w (20 + 3 * i + 1) = F (20 + 3 * i + 1) ∧ doF F w (20 + 3 * i + 2) = if w = 1 + i then 1 - F (20 + 3 * i + 2) else F (20 + 3 * i + 2)) ∧
    (∀ k, 0 ≤ k → k < F 4 → doF F w (38 + k) = F (38 + k)) ∧ doF F w (38 + F 4) = w := by
  have hn := hI.n
  unfold dOk at hw
  rcases hw with h | h | h
  · subst h
    have e : doF F 0 = fu (fu (fu F (38 + F 4) 0) 4 (F 4 + 1)) 3 (F 3 + 1) := by
      unfold doF tuF; rw [if_pos rfl, fu_ne (by omega), fu_ne (by omega)]
    rw [e]
    simp only [fu, dDay, dNet]
    refine ⟨?_, ?_, ?_, ?_, ?_, ?_, fun j a b => ?_, fun i a b => ⟨?_, ?_, ?_⟩, fun k a b => ?_, ?_⟩ <;> repeat (first | rfl | rw [if_neg (by omega)] | rw [if_pos (by omega)])
    all_goals omega
  · have e : doF F w = fu (fu (fu F (38 + F 4) w) 4 (F 4 + 1)) (20 + 3 * (w - 1) + 2) (1 - F (20 + 3 * (w - 1) + 2)) := by
      unfold doF tuF; rw [if_neg (by omega), if_pos (by omega), fu_ne (by omega), fu_ne (by omega)]
    rw [e]
    simp only [fu, dDay, dNet]
    refine ⟨?_, ?_, ?_, ?_, ?_, ?_, fun j a b => ?_, fun i a b => ⟨?_, ?_, ?_⟩, fun k a b => ?_, ?_⟩
    · repeat (first | rfl | rw [if_neg (by omega)] | rw [if_pos (by omega)])
    · repeat (first | rfl | rw [if_neg (by omega)] | rw [if_pos (by omega)])
    · repeat (first | rfl | rw [if_neg (by omega)] | rw [if_pos (by omega)])
    · rw [if_neg (by omega), if_neg (by omega), if_neg (by omega), if_neg (by omega)]; omega
    · repeat (first | rfl | rw [if_neg (by omega)] | rw [if_pos (by omega)])
    · rw [if_neg (by omega), if_neg (by omega), if_neg (by omega), if_pos (by omega)]; omega
    · repeat (first | rfl | rw [if_neg (by omega)] | rw [if_pos (by omega)])
    · repeat (first | rfl | rw [if_neg (by omega)] | rw [if_pos (by omega)])
    · repeat (first | rfl | rw [if_neg (by omega)] | rw [if_pos (by omega)])
    · by_cases hi : w = 1 + i
      · rw [if_pos (by omega), if_pos hi, show w - 1 = i by omega]
      · rw [if_neg (by omega), if_neg (by omega), if_neg (by omega), if_neg hi]
    · repeat (first | rfl | rw [if_neg (by omega)] | rw [if_pos (by omega)])
    · repeat (first | rfl | rw [if_neg (by omega)] | rw [if_pos (by omega)])
  · have e : doF F w = fu (fu (fu F (38 + F 4) w) 4 (F 4 + 1)) 5 (F 5 + dNet w) := by
      unfold doF tuF dNet
      rw [if_neg (by omega), if_neg (show ¬ w < 100 by omega), if_neg (show ¬ w < 100 by omega), fu_ne (by omega), fu_ne (by omega)]
      congr 2
      by_cases h2 : w < 200
      · rw [if_pos h2, if_pos h2]; omega
      · rw [if_neg h2, if_neg h2]; omega
    rw [e]
    have hd : dDay w = 0 := by unfold dDay; rw [if_neg (by omega)]
    rw [hd]
    simp only [fu]
    refine ⟨?_, ?_, ?_, ?_, ?_, ?_, fun j a b => ?_, fun i a b => ⟨?_, ?_, ?_⟩, fun k a b => ?_, ?_⟩
    · repeat (first | rfl | rw [if_neg (by omega)] | rw [if_pos (by omega)])
    · repeat (first | rfl | rw [if_neg (by omega)] | rw [if_pos (by omega)])
    · repeat (first | rfl | rw [if_neg (by omega)] | rw [if_pos (by omega)])
    · rw [if_neg (by omega), if_neg (by omega), if_neg (by omega)]; omega
    · repeat (first | rfl | rw [if_neg (by omega)] | rw [if_pos (by omega)])
    · repeat (first | rfl | rw [if_neg (by omega)] | rw [if_pos (by omega)])
    · repeat (first | rfl | rw [if_neg (by omega)] | rw [if_pos (by omega)])
    · repeat (first | rfl | rw [if_neg (by omega)] | rw [if_pos (by omega)])
    · repeat (first | rfl | rw [if_neg (by omega)] | rw [if_pos (by omega)])
    · repeat (first | rfl | rw [if_neg (by omega)] | rw [if_pos (by omega)])
    · repeat (first | rfl | rw [if_neg (by omega)] | rw [if_pos (by omega)])
    · repeat (first | rfl | rw [if_neg (by omega)] | rw [if_pos (by omega)])
theorem doF_I {F : Int → Int} (hI : FI F) {w : Int} (hw : dOk w) (h0 : 0 < F 0) (h4 : F 4 < 60) (hb : 1 ≤ w → w ≤ 6 → w ≤ F 0) (hd : w = 0 → F 3 < 999) : FI (doF F w) := by
  obtain ⟨v0, v1, v2, v3, v4, v5, vj, vi, vk, vn⟩ := doF_v hI hw h4
  have hn := hI.n
  have ht := hI.td
  refine ⟨by rw [v0, v1, v2, v4]; omega, fun j a b => ?_, fun j a b => ?_, fun i a b => ?_, fun k a b => ?_, ?_, ?_, ?_, ?_⟩
  · rw [v1] at b; rw [vj _ (by omega) (by omega)]; exact hI.t a b
  · rw [v2] at b; rw [vj _ (by omega) (by omega)]; exact hI.m a b
  · rw [v0] at b
    obtain ⟨w1, w2, w3⟩ := vi i a (by omega)
    have := hI.b a b
    rw [w1, w2, w3]
    refine ⟨this.1, this.2.1, ?_⟩
    split <;> omega
  · rw [v4] at b; rw [v0]
    by_cases hk : k < F 4
    · rw [vk k a hk]; exact hI.d a hk
    · rw [show k = F 4 by omega, vn]; exact ⟨hw, hb⟩
  · rw [v3, v4, show (F 4 + 1).toNat = (F 4).toNat + 1 by omega]
    show _ = dSum dDay (doF F w) (F 4).toNat + dDay (doF F w (38 + ((F 4).toNat : Int)))
    rw [show ((F 4).toNat : Int) = F 4 by omega, vn, dSum_cg (F' := F) (fun k a b => vk k a (by omega))]
    have e : F 3 = dSum dDay F (F 4).toNat := hI.2.2.2.2.2.1
    omega
  · rw [v5, v4, show (F 4 + 1).toNat = (F 4).toNat + 1 by omega]
    show _ = dSum dNet (doF F w) (F 4).toNat + dNet (doF F w (38 + ((F 4).toNat : Int)))
    rw [show ((F 4).toNat : Int) = F 4 by omega, vn, dSum_cg (F' := F) (fun k a b => vk k a (by omega))]
    have e : F 5 = dSum dNet F (F 4).toNat := hI.2.2.2.2.2.2.1
    omega
  · rw [v3]; unfold dDay
    by_cases h : w = 0
    · rw [if_pos h]; have := hd h; omega
    · rw [if_neg h]; omega
  · rw [v0]; intro h; omega
theorem heir1 {F : Int → Int} {t w v : Int} (h0 : 0 ≤ t) (h : (t = 0 ∧ w = -1) ∨ (0 < t ∧ w = hg F (ab (hgB F) (t - 1).toNat))) (hv : v = if w < 0 ∨ hg F t < w then 1 else 0) (hb : 0 ≤ hg F (ab (hgB F) (t - 1).toNat)) :
    (¬ v = 0 → ab (hgB F) t.toNat = t) ∧ (v = 0 → ab (hgB F) t.toNat = ab (hgB F) (t - 1).toNat ∧ w = hg F (ab (hgB F) (t - 1).toNat)) := by
  rcases h with ⟨h1, h2⟩ | ⟨h1, h2⟩
  · subst h1
    rw [if_pos (by omega)] at hv
    exact ⟨fun _ => rfl, fun q => absurd (hv.symm.trans q) (by decide)⟩
  · rw [ab_s (t := t) (by omega)]
    by_cases hl : hg F t < w
    · rw [if_pos (Or.inr hl)] at hv
      have hd : hgB F t (ab (hgB F) (t - 1).toNat) = true := decide_eq_true (by omega)
      rw [if_pos hd]
      exact ⟨fun _ => rfl, fun q => absurd (hv.symm.trans q) (by decide)⟩
    · rw [if_neg (by omega)] at hv
      rw [if_neg (fun q : hgB F t (ab (hgB F) (t - 1).toNat) = true => absurd (of_decide_eq_true q) (by omega))]
      exact ⟨fun q => absurd hv q, fun _ => ⟨rfl, h2⟩⟩
