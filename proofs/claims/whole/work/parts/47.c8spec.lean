/-! Books in the class's rows. -/
def cbD (g : Mm) (r k : Int) : Int := g (16 + r) (2 * k)
def cbF (g : Mm) (r k : Int) : Int := g (16 + r) (2 * k + 1)
def cbW (g : Mm) (r k : Int) : Int := if (0 ≤ cbD g r k ∧ cbD g r k ≤ 999) ∧ (0 ≤ cbF g r k ∧ cbF g r k ≤ 1) then 0 else 1
def cwr (g : Mm) (r : Int) : Int := if g (6 + r) 1 < 0 then 1 else if g (6 + r) 1 % 2 = 1 then 5 else if sI (cbW g r) (g (6 + r) 1 / 2) = 0 then 0 else 3
theorem cbW_01 (g : Mm) (r k : Int) : 0 ≤ cbW g r k ∧ cbW g r k ≤ 1 := by unfold cbW; split <;> omega
theorem cwr_bd (g : Mm) (r : Int) : 0 ≤ cwr g r ∧ cwr g r ≤ 5 := by
  unfold cwr
  repeat' split
  all_goals omega
theorem sI_pos {h : Int → Int} {t n : Int} (h0 : 0 ≤ t) (ht : t < n) (hp : ∀ e, 0 ≤ e → e < n → 0 ≤ h e) (h1 : 0 < h t) : ¬ sI h n = 0 := by
  have a := sI_mono (h := h) (t := t + 1) (n := n) (by omega) (by omega) hp
  have b := sI_nn (h := h) (n := t) (fun e x y => hp e x (by omega)) h0
  rw [sI_s _ h0] at a
  omega
theorem cwr_z {g : Mm} {r : Int} (h : cwr g r = 0) : 0 ≤ g (6 + r) 1 ∧ g (6 + r) 1 % 2 = 0 := by
  unfold cwr at h
  split at h
  · omega
  · split at h
    · omega
    · omega
theorem cb_ok {g : Mm} {r : Int} (h : cwr g r = 0) {k : Int} (h0 : 0 ≤ k) (h1 : k < g (6 + r) 1 / 2) : (0 ≤ cbD g r k ∧ cbD g r k ≤ 999) ∧ (0 ≤ cbF g r k ∧ cbF g r k ≤ 1) := by
  have hs : sI (cbW g r) (g (6 + r) 1 / 2) = 0 := by
    unfold cwr at h
    split at h
    · omega
    · split at h
      · omega
      · split at h
        · assumption
        · omega
  refine Classical.byContradiction (fun z => sI_pos (h := cbW g r) h0 h1 (fun e _ _ => (cbW_01 g r e).1) ?_ hs)
  unfold cbW; rw [if_neg z]; decide
/-- the set of turns that a book tells to be a farm's -/
def tb (D E : Int → Int) (n q : Int) : Nat → Int
  | 0 => 0
  | k + 1 => if E (k : Int) = q then or2 (tb D E n q k) (pw (D (k : Int) % n)) else tb D E n q k
theorem tb_s (D E : Int → Int) (n q : Int) {t : Int} (h : 0 ≤ t) : tb D E n q (t + 1).toNat = if E t = q then or2 (tb D E n q t.toNat) (pw (D t % n)) else tb D E n q t.toNat := by
  obtain ⟨k, rfl⟩ := Int.eq_ofNat_of_zero_le h
  rfl
theorem pw_lt {i n : Int} (h0 : 0 ≤ i) (h : i < n) : pw i < pw n := by
  have h1 := pw_le (i := i + 1) (j := n) (by omega) (by omega)
  rw [pw_s h0] at h1
  have := pw_pos i
  omega
theorem tb_bd (D E : Int → Int) {n q : Int} (hn : 1 ≤ n) (k : Nat) : 0 ≤ tb D E n q k ∧ tb D E n q k < pw n := by
  induction k with
  | zero => exact ⟨Int.le_refl 0, pw_pos n⟩
  | succ k ih =>
    have hm := emd (d := D (k : Int)) (n := n) (by omega)
    have h2 := pw_lt (i := D (k : Int) % n) (n := n) hm.1 hm.2
    have h3 := pw_pos (D (k : Int) % n)
    unfold tb
    split
    · exact or2_bd ih.1 (by omega) (by omega) ih.2 h2
    · exact ih
