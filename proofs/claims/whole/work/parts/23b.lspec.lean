/-! Lots, counts, the digest. -/
theorem lot1_ok {F : Int → Int} (hI : FI F) (h0 : 0 < F 0) (h4 : F 4 < 60) {x : Int} (hx : 0 ≤ x) : FI (lot1 F x) ∧ lot1 F x 0 = F 0 ∧ F 4 ≤ lot1 F x 4 ∧ lot1 F x 4 ≤ F 4 + 1 := by
  have hn := hI.n
  have ht := hI.td
  unfold lot1
  have hm := emd (d := x / 8) (n := F 0) h0
  by_cases h1 : x % 3 = 1
  · rw [if_pos h1]
    have hw : dOk (1 + x / 8 % F 0) := Or.inr (Or.inl ⟨by omega, by omega⟩)
    have v := doF_v hI hw h4
    exact ⟨doF_I hI hw h0 h4 (fun _ _ => by omega) (fun h => by omega), v.1, by rw [v.2.2.2.2.1]; omega, by rw [v.2.2.2.2.1]; omega⟩
  · rw [if_neg h1]
    by_cases h2 : x % 3 = 2
    · rw [if_pos h2]
      have hw : dOk (100 + 100 * (x / 16 % 2) + x / 64 % 9 + 1) := Or.inr (Or.inr (by omega))
      have v := doF_v hI hw h4
      exact ⟨doF_I hI hw h0 h4 (fun _ _ => by omega) (fun h => by omega), v.1, by rw [v.2.2.2.2.1]; omega, by rw [v.2.2.2.2.1]; omega⟩
    · rw [if_neg h2]
      by_cases h3 : F 3 < 999
      · rw [if_pos h3]
        have hw : dOk 0 := Or.inl rfl
        have v := doF_v hI hw h4
        exact ⟨doF_I hI hw h0 h4 (fun h _ => by omega) (fun _ => h3), v.1, by rw [v.2.2.2.2.1]; omega, by rw [v.2.2.2.2.1]; omega⟩
      · rw [if_neg h3]; exact ⟨hI, rfl, by omega, by omega⟩
theorem lF_ok {F : Int → Int} (hI : FI F) (h0 : 0 < F 0) {s : Int} (hs : 1 ≤ s) (hs2 : s < 2147483647) : ∀ k : Nat, F 4 + k ≤ 60 → FI (lF F s k) ∧ lF F s k 0 = F 0 ∧ F 4 ≤ lF F s k 4 ∧ lF F s k 4 ≤ F 4 + k
  | 0, _ => ⟨hI, rfl, Int.le_refl _, by show F 4 ≤ F 4 + ((0 : Nat) : Int); omega⟩
  | k + 1, h => by
    have ih := lF_ok hI h0 hs hs2 k (by omega)
    have hx := lx_bd hs hs2 (k + 1)
    have := lot1_ok ih.1 (by rw [ih.2.1]; exact h0) (by omega) hx.1
    show FI (lot1 _ _) ∧ lot1 _ _ 0 = F 0 ∧ F 4 ≤ lot1 _ _ 4 ∧ lot1 _ _ 4 ≤ _
    exact ⟨this.1, this.2.1.trans ih.2.1, by omega, by omega⟩
theorem lF_s {F : Int → Int} {s t : Int} (h : 0 ≤ t) : lF F s (t + 1).toNat = lot1 (lF F s t.toNat) (lx s (t + 1).toNat) := by
  obtain ⟨n, rfl⟩ := Int.eq_ofNat_of_zero_le h
  rfl
theorem lx_s {s t : Int} (h : 0 ≤ t) : lx s (t + 1).toNat = lx s t.toNat * 48271 % 2147483647 := by
  obtain ⟨n, rfl⟩ := Int.eq_ofNat_of_zero_le h
  rfl
/-- how many -/
def bl (F : Int → Int) (n : Int) : Int := sI (fun i => if F (20 + 3 * i) = 3 ∨ F (20 + 3 * i) = 5 then 1 else 0) n
def thr (s : Int → Int) (n : Int) : Int := sI (fun r => if s r < 0 then 0 else 1) n
def kpt (s : Int → Int) (n : Int) : Int := sI (fun r => if s r = 0 then 0 else 1) n
def cn (F sz ln kp : Int → Int) (k : Int) : Int := if k = 0 then F 0 else if k = 1 then F 1 else if k = 2 then F 2 else if k = 3 then F 3 else if k = 4 then F 4 else if k = 5 then F 5 + 10000 else if k = 6 then bl F (F 0) else if k = 7 then thr sz 6 else if k = 8 then thr ln 4 else if k = 9 then kpt kp 3 else -1
theorem cn_bd {F sz ln kp : Int → Int} (h : FI F) (k : Int) : -1 ≤ cn F sz ln kp k ∧ cn F sz ln kp k ≤ 20000 := by
  have hn := h.n
  have ht := h.td
  have h5 := h.net
  have b := sI_01 (h := fun i => if F (20 + 3 * i) = 3 ∨ F (20 + 3 * i) = 5 then 1 else 0) (n := F 0) (fun e _ _ => by split <;> omega) (by omega)
  have c := sI_01 (h := fun r => if sz r < 0 then 0 else 1) (n := 6) (fun e _ _ => by split <;> omega) (by omega)
  have d := sI_01 (h := fun r => if ln r < 0 then 0 else 1) (n := 4) (fun e _ _ => by split <;> omega) (by omega)
  have e := sI_01 (h := fun r => if kp r = 0 then 0 else 1) (n := 3) (fun e _ _ => by split <;> omega) (by omega)
  unfold cn bl thr kpt
  repeat' split
  all_goals omega
/-- the digest -/
def hN (h : Int) (f : Int → Int) : Nat → Int
  | 0 => h
  | k + 1 => 31 * hN h f k + f (k : Int)
def hf (h : Int) (f : Int → Int) (n : Int) : Int := hN h f n.toNat
theorem hf_s (h : Int) (f : Int → Int) {n : Int} (h0 : 0 ≤ n) : hf h f (n + 1) = 31 * hf h f n + f n := by
  obtain ⟨n, rfl⟩ := Int.eq_ofNat_of_zero_le h0
  rfl
theorem hf_cg {h : Int} {f f' : Int → Int} {n : Int} (e : ∀ k, 0 ≤ k → k < n → f k = f' k) : hf h f n = hf h f' n := by
  unfold hf
  have : ∀ m : Nat, (m : Int) ≤ n ∨ m = 0 → hN h f m = hN h f' m := by
    intro m
    induction m with
    | zero => intro _; rfl
    | succ m ih =>
      intro hm
      show 31 * hN h f m + f m = 31 * hN h f' m + f' m
      rw [ih (by omega), e m (by omega) (by omega)]
  exact this _ (by omega)
/-- rows one behind another: sizes, then places -/
def rN (h : Int) (sz : Int → Int) (pl : Int → Int → Int) : Nat → Int
  | 0 => h
  | r + 1 => hf (31 * rN h sz pl r + sz (r : Int)) (pl (r : Int)) (sz (r : Int))
def rf (h : Int) (sz : Int → Int) (pl : Int → Int → Int) (n : Int) : Int := rN h sz pl n.toNat
theorem rf_s (h : Int) (sz : Int → Int) (pl : Int → Int → Int) {n : Int} (h0 : 0 ≤ n) : rf h sz pl (n + 1) = hf (31 * rf h sz pl n + sz n) (pl n) (sz n) := by
  obtain ⟨n, rfl⟩ := Int.eq_ofNat_of_zero_le h0
  rfl
def bh (F : Int → Int) (i k : Int) : Int := if k < 3 then F (20 + 3 * i + k) else vT F i (k - 3)
theorem bh_bd {F : Int → Int} (h : FI F) {i k : Int} (h0 : 0 ≤ i) (h1 : i < F 0) (hk : 0 ≤ k ∧ k ≤ 4) : 0 ≤ bh F i k ∧ bh F i k ≤ 36 := by
  have a := h.b h0 h1
  have b := vT_bd h h0 h1 (q := 0) (by omega)
  have c := vT_bd h h0 h1 (q := 1) (by omega)
  unfold bh
  rcases (show k = 0 ∨ k = 1 ∨ k = 2 ∨ k = 3 ∨ k = 4 by omega) with rfl | rfl | rfl | rfl | rfl
  · rw [if_pos (by decide), Int.add_zero]; omega
  · rw [if_pos (by decide)]; omega
  · rw [if_pos (by decide)]; omega
  · rw [if_neg (by decide)]; exact b
  · rw [if_neg (by decide)]; exact c
def dgM (g : Mm) : Int :=
  rf (rf (hf (hf (hf (hf 17 (cn (g 6) (g 1) (g 4) (g 9)) 10) (fun k => g 6 (6 + k)) (g 6 1)) (fun k => bh (g 6) (k / 5) (k % 5)) (5 * g 6 0)) (fun k => if g 9 k = 0 then -1 else g 8 (98 * k + 4)) 3) (g 1) (fun r j => g 2 (40 * r + j)) 6) (g 4) (fun t j => g 5 (60 * t + j)) 4
