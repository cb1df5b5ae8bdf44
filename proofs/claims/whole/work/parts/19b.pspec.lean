/-! Partings: sums of deeds, sets, heirs. -/
theorem dSum_bd {h F : Int → Int} {B : Int} {n : Nat} (hB : ∀ k : Int, 0 ≤ k → k < n → -B ≤ h (F (38 + k)) ∧ h (F (38 + k)) ≤ B) : -(B * n) ≤ dSum h F n ∧ dSum h F n ≤ B * n := by
  induction n with
  | zero => simp [dSum]
  | succ n ih =>
    have h1 := ih (fun k a b => hB k a (by omega))
    have h2 := hB (n : Int) (by omega) (by omega)
    have e : dSum h F (n + 1) = dSum h F n + h (F (38 + (n : Int))) := rfl
    rw [e, show ((n + 1 : Nat) : Int) = (n : Int) + 1 by omega, Int.mul_add, Int.mul_one]
    omega
theorem dSum_nn {h F : Int → Int} {n : Nat} (hB : ∀ k : Int, 0 ≤ k → k < n → 0 ≤ h (F (38 + k))) : 0 ≤ dSum h F n := by
  induction n with
  | zero => simp [dSum]
  | succ n ih =>
    have h1 := ih (fun k a b => hB k a (by omega))
    have h2 := hB (n : Int) (by omega) (by omega)
    have e : dSum h F (n + 1) = dSum h F n + h (F (38 + (n : Int))) := rfl
    omega
theorem FI.d {F : Int → Int} (h : FI F) {k : Int} (h0 : 0 ≤ k) (h1 : k < F 4) : dOk (F (38 + k)) ∧ (1 ≤ F (38 + k) → F (38 + k) ≤ 6 → F (38 + k) ≤ F 0) := h.2.2.2.2.1 k h0 h1
theorem FI.td {F : Int → Int} (h : FI F) : 0 ≤ F 3 ∧ F 3 ≤ 999 := by
  have e : F 3 = dSum dDay F (F 4).toNat := h.2.2.2.2.2.1
  have e9 : F 3 ≤ 999 := h.2.2.2.2.2.2.2.1
  refine ⟨?_, e9⟩
  rw [e]
  exact dSum_nn (fun k _ _ => by unfold dDay; split <;> omega)
theorem FI.net {F : Int → Int} (h : FI F) : -5940 ≤ F 5 ∧ F 5 ≤ 5940 := by
  have e : F 5 = dSum dNet F (F 4).toNat := h.2.2.2.2.2.2.1
  have hn := h.n
  have := dSum_bd (h := dNet) (F := F) (B := 99) (n := (F 4).toNat) (fun k a b => by
    have := (h.d (k := k) a (by omega)).1
    unfold dOk at this
    unfold dNet; repeat' split
    all_goals omega)
  rw [e]; omega
theorem FI.z {F : Int → Int} (h : FI F) : F 0 = 0 → F 4 = 0 := h.2.2.2.2.2.2.2.2
theorem shl_01 {x i : Int} (hx : x = 0 ∨ x = 1) (hi0 : 0 ≤ i) (hi : i < 31) : iI x <<< (iI i &&& 31) = iI (if x = 1 then pw i else 0) := by
  rcases hx with rfl | rfl
  · obtain ⟨k, rfl⟩ := Int.eq_ofNat_of_zero_le hi0
    rw [show iI 0 = nI 0 from rfl, iI_nI, pk_shlN _ k (sh31 k (by omega)) (by omega)]
    simp; rfl
  · rw [shl_1 hi0 hi]; simp
theorem or_if {s i : Int} {c : Prop} [Decidable c] (h0 : 0 ≤ s) (hs : s < pw i) (hi0 : 0 ≤ i) : iI s ||| iI (if c then pw i else 0) = iI (s + if c then pw i else 0) := by
  by_cases h : c
  · rw [if_pos h, or_pw h0 hs hi0]
  · rw [if_neg h, Int.add_zero]
    obtain ⟨n, rfl⟩ := Int.eq_ofNat_of_zero_le h0
    rw [iI_nI, show iI 0 = nI 0 from rfl, nI_or, Nat.or_zero]
def xr (a b : Int) : Int := ((a.toNat ^^^ b.toNat : Nat) : Int)
theorem xor_xr {a b : Int} (ha : 0 ≤ a) (hb : 0 ≤ b) : iI a ^^^ iI b = iI (xr a b) := by
  obtain ⟨n, rfl⟩ := Int.eq_ofNat_of_zero_le ha
  obtain ⟨m, rfl⟩ := Int.eq_ofNat_of_zero_le hb
  rw [iI_nI, iI_nI, nI_xor]; unfold xr; rw [iI_nI]; rfl
theorem xr_bd {a b : Int} (ha : 0 ≤ a) (ha2 : a < 256) (hb : 0 ≤ b) (hb2 : b < 256) : 0 ≤ xr a b ∧ xr a b < 256 := by
  unfold xr
  have := Nat.xor_lt_two_pow (n := 8) (x := a.toNat) (y := b.toNat) (by omega) (by omega)
  omega
/-- neither FARM would rather have the other's -/
abbrev fP (F : Int → Int) (s pd : Int) : Prop := VB F s 1 0 - pd ≤ VB F s 0 0 + pd ∧ VB F s 0 1 + pd ≤ VB F s 1 1 - pd
abbrev ow (F : Int → Int) : Int := so F 1 (F 0)
def dv (F : Int → Int) (s : Int) : Int := sI (bt (xr s (ow F))) 24
def wyN (F : Int → Int) (k : Int) : Int := sI (fun s => if fP F s 0 then 1 else 0) k
def wyF (F : Int → Int) : Nat → Int
  | 0 => -9
  | k + 1 => if fP F k 0 then (if wyF F k = -9 ∨ dv F k < wyF F k then dv F k else wyF F k) else wyF F k
theorem wyF_s (F : Int → Int) {t : Int} (h : 0 ≤ t) : wyF F (t + 1).toNat = if fP F t 0 then (if wyF F t.toNat = -9 ∨ dv F t < wyF F t.toNat then dv F t else wyF F t.toNat) else wyF F t.toNat := by
  obtain ⟨n, rfl⟩ := Int.eq_ofNat_of_zero_le h
  rfl
theorem dv_bd (F : Int → Int) (s : Int) : 0 ≤ dv F s ∧ dv F s ≤ 24 := ones_bd _
theorem wyF_r (F : Int → Int) (k : Nat) : wyF F k = -9 ∨ (0 ≤ wyF F k ∧ wyF F k ≤ 24) := by
  induction k with
  | zero => exact Or.inl rfl
  | succ k ih =>
    have := dv_bd F k
    unfold wyF; repeat' split
    all_goals omega
theorem ow_bd {F : Int → Int} (h : FI F) : 0 ≤ ow F ∧ ow F < pw (F 0) ∧ pw (F 0) ≤ 64 := by
  have hn := h.n
  have := so_bd F 1 (n := F 0) (by omega)
  have h2 := pw_le (i := F 0) (j := 6) (by omega) (by omega)
  rw [show pw 6 = 64 from rfl] at h2
  exact ⟨this.1, this.2, h2⟩
def ls (F : Int → Int) (s : Int) : Int := if VB F s 0 0 < VB F s 1 1 then VB F s 0 0 else VB F s 1 1
def lsB (F : Int → Int) (x y : Int) : Bool := decide (ls F y < ls F x)
theorem ls_bd {F : Int → Int} (h : FI F) (s : Int) : 0 ≤ ls F s ∧ ls F s ≤ 216 := by
  have h1 := VB_bd h s 0 (q := 0) (by omega)
  have h2 := VB_bd h s 1 (q := 1) (by omega)
  unfold ls; split <;> omega
def smP (F : Int → Int) (x : Int) : Bool := decide (fP F (ow F) (F 5 - x) ∨ fP F (ow F) (F 5 + x))
/-- heirs -/
def p3 (i : Int) : Int := 3 ^ i.toNat
theorem p3_s {i : Int} (h : 0 ≤ i) : p3 (i + 1) = p3 i * 3 := by
  obtain ⟨n, rfl⟩ := Int.eq_ofNat_of_zero_le h
  show (3 : Int) ^ (n + 1) = 3 ^ n * 3
  rw [Int.pow_succ]
theorem p3_pos (i : Int) : 0 < p3 i := by unfold p3; exact Int.pow_pos (by decide)
theorem p3_tab {i : Int} (h0 : 0 ≤ i) (h : i ≤ 6) : 1 ≤ p3 i ∧ p3 i ≤ 729 := by
  rcases (show i = 0 ∨ i = 1 ∨ i = 2 ∨ i = 3 ∨ i = 4 ∨ i = 5 ∨ i = 6 by omega) with rfl | rfl | rfl | rfl | rfl | rfl | rfl <;> decide
theorem div_p3 {c t : Int} (h : 0 ≤ t) : c / p3 t / 3 = c / p3 (t + 1) := by
  rw [p3_s h, Int.ediv_ediv_of_nonneg (Int.le_of_lt (p3_pos t))]
def hs (F : Int → Int) (c q t : Int) : Int := sI (fun x => if c / p3 x % 3 = q then vT F (F 0 - 1 - x) 0 else 0) t
theorem hs_s (F : Int → Int) (c q : Int) {t : Int} (h : 0 ≤ t) : hs F c q (t + 1) = hs F c q t + if c / p3 t % 3 = q then vT F (F 0 - 1 - t) 0 else 0 := sI_s _ h
theorem hs_bd {F : Int → Int} (h : FI F) (c q : Int) {t : Int} (h0 : 0 ≤ t) (h1 : t ≤ F 0) : 0 ≤ hs F c q t ∧ hs F c q t ≤ 216 := by
  have hn := h.n
  have a1 := sI_bd (h := fun x => if c / p3 x % 3 = q then vT F (F 0 - 1 - x) 0 else 0) (B := 36) (n := t) (fun e a b => by
    have := vT_bd h (i := F 0 - 1 - e) (by omega) (by omega) (q := 0) (by omega)
    split <;> omega) h0
  have a2 := sI_nn (h := fun x => if c / p3 x % 3 = q then vT F (F 0 - 1 - x) 0 else 0) (n := t) (fun e a b => by
    have := vT_bd h (i := F 0 - 1 - e) (by omega) (by omega) (q := 0) (by omega)
    split <;> omega) h0
  unfold hs; omega
def hg (F : Int → Int) (c : Int) : Int := max (max (hs F c 0 (F 0)) (hs F c 1 (F 0))) (hs F c 2 (F 0)) - min (min (hs F c 0 (F 0)) (hs F c 1 (F 0))) (hs F c 2 (F 0))
def hgB (F : Int → Int) (x y : Int) : Bool := decide (hg F x < hg F y)
theorem hg_bd {F : Int → Int} (h : FI F) (c : Int) : 0 ≤ hg F c ∧ hg F c ≤ 216 := by
  have hn := h.n
  have a0 := hs_bd h c 0 (t := F 0) (by omega) (by omega)
  have a1 := hs_bd h c 1 (t := F 0) (by omega) (by omega)
  have a2 := hs_bd h c 2 (t := F 0) (by omega) (by omega)
  unfold hg; omega
theorem mu_self (g : Mm) (p j : Int) : mu g p j (g p j) = g := by
  funext p' j'; unfold mu; by_cases h : p' = p ∧ j' = j
  · rw [if_pos h, h.1, h.2]
  · rw [if_neg h]
theorem ev_cut {P : Prop} [Decidable P] {v m : Int} (hv : v = if P then 0 else 1) : (v = 0 → -m = if P then -m else m) ∧ (¬ v = 0 → m = if P then -m else m) := by
  by_cases h : P
  · rw [if_pos h] at hv; rw [if_pos h]; exact ⟨fun _ => rfl, fun q => absurd hv q⟩
  · rw [if_neg h] at hv; rw [if_neg h]; exact ⟨fun q => by omega, fun _ => rfl⟩
