/-! A DEED done in the class is the flat farms' deed. -/
theorem FR_do {g h : Mm} {F : Int → Int} {w : Int} (HF : FR g 0 F) (HI : FI F) (hw : dOk w) (h4 : F 4 < 60)
    (e26 : (h (26 + 0) 7 = g (26 + 0) 7 ∧ h (26 + 0) 5 = g (26 + 0) 5 ∧ h (26 + 0) 6 = g (26 + 0) 6) ∧ h (26 + 0) 9 = F 3 + dDay w ∧ h (26 + 0) 8 = F 4 + 1 ∧ h (26 + 0) 10 = F 5 + dNet w)
    (e31 : h (31 + 0) = g (31 + 0)) (e36 : h (36 + 0) = g (36 + 0))
    (eb : ∀ i, 0 ≤ i → i < F 0 → (∀ j, j ≠ 2 → h (56 + 6 * 0 + i) j = g (56 + 6 * 0 + i) j) ∧ h (56 + 6 * 0 + i) 2 = if w = 1 + i then 1 - F (20 + 3 * i + 2) else F (20 + 3 * i + 2))
    (ek : ∀ k, 0 ≤ k → k < F 4 → h (46 + 0) k = g (46 + 0) k ∧ h (51 + 0) k = g (51 + 0) k)
    (en : (w = 0 ∧ h (46 + 0) (F 4) = 0) ∨ (1 ≤ w ∧ w ≤ 6 ∧ h (46 + 0) (F 4) = 1 ∧ h (51 + 0) (F 4) = w - 1) ∨ (101 ≤ w ∧ w ≤ 199 ∧ h (46 + 0) (F 4) = 2 ∧ h (51 + 0) (F 4) = 100 - w) ∨ (201 ≤ w ∧ w ≤ 299 ∧ h (46 + 0) (F 4) = 2 ∧ h (51 + 0) (F 4) = w - 200)) : FR h 0 (doF F w) := by
  obtain ⟨v0, v1, v2, v3, v4, v5, vj, vi, vk, vn⟩ := doF_v HI hw h4
  have hn := HI.n
  refine ⟨⟨?_, ?_, ?_, ?_, ?_, ?_⟩, fun j a b => ?_, fun j a b => ?_, fun i a b => ?_, fun k a b => ?_⟩
  · rw [e26.1.1, v0]; exact HF.bc
  · rw [e26.1.2.1, v1]; exact HF.tc
  · rw [e26.1.2.2, v2]; exact HF.mc
  · rw [e26.2.1, v3]
  · rw [e26.2.2.1, v4]
  · rw [e26.2.2.2, v5]
  · rw [v1] at b; rw [e31, vj _ (by omega) (by omega)]; exact HF.tn a b
  · rw [v2] at b; rw [e36, vj _ (by omega) (by omega)]; exact HF.mk a b
  · rw [v0] at b
    obtain ⟨w1, w2, w3⟩ := vi i a (by omega)
    have hb := HF.bs a b
    have he := eb i a b
    rw [w1, w2, w3, he.1 0 (by decide), he.1 1 (by decide), he.1 3 (by decide), he.1 4 (by decide), he.2]
    exact ⟨hb.1, hb.2.1, rfl, hb.2.2.2⟩
  · rw [v4] at b
    by_cases hk : k < F 4
    · rw [vk k a hk, (ek k a hk).1, (ek k a hk).2]; exact HF.2.2.2.2 k a hk
    · rw [show k = F 4 by omega, vn]; exact en
theorem wd_o {g : Mm} {k t q : Int} (h : q ≠ 46 + 0) (h2 : q ≠ 51 + 0) (h3 : q ≠ 26 + 0) : wd g 0 k t q = g q := by
  unfold wd; rw [mu_ne h3, mu_ne h2, mu_ne h]
theorem wd_26 {g : Mm} {k t j : Int} (h : j ≠ 8) : wd g 0 k t (26 + 0) j = g (26 + 0) j := by
  unfold wd; rw [mu_nj h, mu_ne (by decide), mu_ne (by decide)]
theorem wd_8 {g : Mm} {k t : Int} : wd g 0 k t (26 + 0) 8 = g (26 + 0) 8 + 1 := by unfold wd; rw [mu_at]
theorem wd_46 {g : Mm} {k t j : Int} : wd g 0 k t (46 + 0) j = if j = g (26 + 0) 8 then k else g (46 + 0) j := by
  unfold wd; rw [mu_ne (by decide), mu_ne (by decide)]
  by_cases h : j = g (26 + 0) 8
  · rw [if_pos h, h, mu_at]
  · rw [if_neg h, mu_nj h]
theorem wd_51 {g : Mm} {k t j : Int} : wd g 0 k t (51 + 0) j = if j = g (26 + 0) 8 then t else g (51 + 0) j := by
  unfold wd; rw [mu_ne (by decide)]
  by_cases h : j = g (26 + 0) 8
  · rw [if_pos h, h, mu_at]
  · rw [if_neg h, mu_nj h, mu_ne (by decide)]
theorem FR_day {g : Mm} {F : Int → Int} (HF : FR g 0 F) (HI : FI F) (h4 : F 4 < 60) : FR (mu (wd g 0 0 0) (26 + 0) 9 (F 3 + 1)) 0 (doF F 0) := by
  have hn := HI.n
  refine FR_do HF HI (Or.inl rfl) h4 ⟨⟨?_, ?_, ?_⟩, ?_, ?_, ?_⟩ ?_ ?_ (fun i a b => ⟨fun j hj => ?_, ?_⟩) (fun k a b => ⟨?_, ?_⟩) (Or.inl ⟨rfl, ?_⟩)
  · rw [mu_nj (by decide), wd_26 (by decide)]
  · rw [mu_nj (by decide), wd_26 (by decide)]
  · rw [mu_nj (by decide), wd_26 (by decide)]
  · rw [mu_at]; rfl
  · rw [mu_nj (by decide), wd_8, HF.dc]
  · rw [mu_nj (by decide), wd_26 (by decide), HF.pd]; show F 5 = F 5 + 0; omega
  · rw [mu_ne (by decide), wd_o (by decide) (by decide) (by decide)]
  · rw [mu_ne (by decide), wd_o (by decide) (by decide) (by decide)]
  · rw [mu_ne (by omega), wd_o (by omega) (by omega) (by omega)]
  · rw [mu_ne (by omega), wd_o (by omega) (by omega) (by omega), if_neg (by omega)]; exact (HF.bs a b).2.2.1
  · rw [mu_ne (by decide), wd_46, if_neg (by rw [HF.dc]; omega)]
  · rw [mu_ne (by decide), wd_51, if_neg (by rw [HF.dc]; omega)]
  · rw [mu_ne (by decide), wd_46, if_pos HF.dc.symm]
theorem FR_drv {g : Mm} {F : Int → Int} {i : Int} (HF : FR g 0 F) (HI : FI F) (h4 : F 4 < 60) (h0 : 0 ≤ i) (h1 : i < F 0) : FR (mu (wd g 0 1 i) (56 + 6 * 0 + i) 2 (1 - F (20 + 3 * i + 2))) 0 (doF F (1 + i)) := by
  have hn := HI.n
  have d0 : dDay (1 + i) = 0 := by unfold dDay; rw [if_neg (by omega)]
  have d1 : dNet (1 + i) = 0 := by unfold dNet; rw [if_pos (by omega)]
  refine FR_do HF HI (Or.inr (Or.inl ⟨by omega, by omega⟩)) h4 ⟨⟨?_, ?_, ?_⟩, ?_, ?_, ?_⟩ ?_ ?_ (fun x a b => ⟨fun j hj => ?_, ?_⟩) (fun k a b => ⟨?_, ?_⟩) (Or.inr (Or.inl ⟨by omega, by omega, ?_, ?_⟩))
  · rw [mu_ne (by omega), wd_26 (by decide)]
  · rw [mu_ne (by omega), wd_26 (by decide)]
  · rw [mu_ne (by omega), wd_26 (by decide)]
  · rw [mu_ne (by omega), wd_26 (by decide), d0, HF.td]; omega
  · rw [mu_ne (by omega), wd_8, HF.dc]
  · rw [mu_ne (by omega), wd_26 (by decide), d1, HF.pd]; omega
  · rw [mu_ne (by omega), wd_o (by decide) (by decide) (by decide)]
  · rw [mu_ne (by omega), wd_o (by decide) (by decide) (by decide)]
  · by_cases hx : x = i
    · subst hx; rw [mu_nj hj, wd_o (by omega) (by omega) (by omega)]
    · rw [mu_ne (by omega), wd_o (by omega) (by omega) (by omega)]
  · by_cases hx : x = i
    · subst hx; rw [mu_at, if_pos rfl]
    · rw [mu_ne (by omega), wd_o (by omega) (by omega) (by omega), if_neg (by omega)]; exact (HF.bs a b).2.2.1
  · rw [mu_ne (by omega), wd_46, if_neg (by rw [HF.dc]; omega)]
  · rw [mu_ne (by omega), wd_51, if_neg (by rw [HF.dc]; omega)]
  · rw [mu_ne (by omega), wd_46, if_pos HF.dc.symm]
  · rw [mu_ne (by omega), wd_51, if_pos HF.dc.symm]; omega
theorem FR_pay {g : Mm} {F : Int → Int} {q x : Int} (HF : FR g 0 F) (HI : FI F) (h4 : F 4 < 60) (h0 : 0 ≤ q) (h1 : q ≤ 1) (hx : 1 ≤ x) (hx2 : x ≤ 99) : FR (mu (wd g 0 2 (if q = 0 then -x else x)) (26 + 0) 10 (F 5 + (if q = 0 then -x else x))) 0 (doF F (100 + 100 * q + x)) := by
  have hn := HI.n
  have d0 : dDay (100 + 100 * q + x) = 0 := by unfold dDay; rw [if_neg (by omega)]
  have d1 : dNet (100 + 100 * q + x) = if q = 0 then -x else x := by
    unfold dNet; rw [if_neg (by omega)]
    by_cases h : q = 0
    · rw [if_pos h, if_pos (by omega)]; omega
    · rw [if_neg h, if_neg (by omega)]; omega
  have hw : dOk (100 + 100 * q + x) := Or.inr (Or.inr (by omega))
  refine FR_do HF HI hw h4 ⟨⟨?_, ?_, ?_⟩, ?_, ?_, ?_⟩ ?_ ?_ (fun i a b => ⟨fun j hj => ?_, ?_⟩) (fun k a b => ⟨?_, ?_⟩) (Or.inr (Or.inr ?_))
  · rw [mu_nj (by decide), wd_26 (by decide)]
  · rw [mu_nj (by decide), wd_26 (by decide)]
  · rw [mu_nj (by decide), wd_26 (by decide)]
  · rw [mu_nj (by decide), wd_26 (by decide), d0, HF.td]; omega
  · rw [mu_nj (by decide), wd_8, HF.dc]
  · rw [mu_at, d1]
  · rw [mu_ne (by decide), wd_o (by decide) (by decide) (by decide)]
  · rw [mu_ne (by decide), wd_o (by decide) (by decide) (by decide)]
  · rw [mu_ne (by omega), wd_o (by omega) (by omega) (by omega)]
  · rw [mu_ne (by omega), wd_o (by omega) (by omega) (by omega), if_neg (by omega)]; exact (HF.bs a b).2.2.1
  · rw [mu_ne (by decide), wd_46, if_neg (by rw [HF.dc]; omega)]
  · rw [mu_ne (by decide), wd_51, if_neg (by rw [HF.dc]; omega)]
  · rw [mu_ne (by decide), wd_46, if_pos HF.dc.symm, mu_ne (by decide), wd_51, if_pos HF.dc.symm]
    by_cases h : q = 0
    · rw [if_pos h]; exact Or.inl ⟨by omega, by omega, rfl, by omega⟩
    · rw [if_neg h]; exact Or.inr ⟨by omega, by omega, rfl, by omega⟩
theorem wd_fr {g : Mm} {k t p j z q : Int} (hp : p = 26 + 0 ∨ (56 ≤ p ∧ p < 62)) (o : oF 0 q) : mu (wd g 0 k t) p j z q = g q := by
  rw [mu_ne (by have := o.1; have := o.2.2.2.2.2; omega), wd_o o.2.2.2.1 o.2.2.2.2.1 o.1]
/-- a lot: which deed -/
theorem lot_day {g : Mm} {F : Int → Int} {x : Int} (HF : FR g 0 F) (HI : FI F) (h4 : F 4 < 60) (hx : x % 3 = 0) : FR (if g (26 + 0) 9 < 999 then mu (wd g 0 0 0) (26 + 0) 9 (g (26 + 0) 9 + 1) else g) 0 (lot1 F x) ∧ ∀ q, oF 0 q → (if g (26 + 0) 9 < 999 then mu (wd g 0 0 0) (26 + 0) 9 (g (26 + 0) 9 + 1) else g) q = g q := by
  unfold lot1
  rw [if_neg (show ¬ x % 3 = 1 by omega), if_neg (show ¬ x % 3 = 2 by omega), HF.td]
  by_cases h : F 3 < 999
  · rw [if_pos h, if_pos h]; exact ⟨FR_day HF HI h4, fun q o => wd_fr (Or.inl rfl) o⟩
  · rw [if_neg h, if_neg h]; exact ⟨HF, fun q o => rfl⟩
theorem lot_drv {g : Mm} {F : Int → Int} {x : Int} (HF : FR g 0 F) (HI : FI F) (h0 : 0 < F 0) (h4 : F 4 < 60) (hx : x % 3 = 1) : FR (mu (wd g 0 1 (x / 8 % F 0)) (56 + 6 * 0 + x / 8 % F 0) 2 (1 - g (56 + 6 * 0 + x / 8 % F 0) 2)) 0 (lot1 F x) ∧ ∀ q, oF 0 q → mu (wd g 0 1 (x / 8 % F 0)) (56 + 6 * 0 + x / 8 % F 0) 2 (1 - g (56 + 6 * 0 + x / 8 % F 0) 2) q = g q := by
  have hm := emd (d := x / 8) (n := F 0) h0
  have hn := HI.n
  unfold lot1
  rw [if_pos hx, (HF.bs hm.1 hm.2).2.2.1]
  exact ⟨FR_drv HF HI h4 hm.1 hm.2, fun q o => wd_fr (Or.inr ⟨by omega, by omega⟩) o⟩
theorem lot_pay {g : Mm} {F : Int → Int} {x : Int} (HF : FR g 0 F) (HI : FI F) (h4 : F 4 < 60) (hx : x % 3 = 2) : FR (mu (wd g 0 2 (if x / 16 % 2 = 0 then -(x / 64 % 9 + 1) else x / 64 % 9 + 1)) (26 + 0) 10 (g (26 + 0) 10 + (if x / 16 % 2 = 0 then -(x / 64 % 9 + 1) else x / 64 % 9 + 1))) 0 (lot1 F x) ∧ ∀ q, oF 0 q → mu (wd g 0 2 (if x / 16 % 2 = 0 then -(x / 64 % 9 + 1) else x / 64 % 9 + 1)) (26 + 0) 10 (g (26 + 0) 10 + (if x / 16 % 2 = 0 then -(x / 64 % 9 + 1) else x / 64 % 9 + 1)) q = g q := by
  unfold lot1
  rw [if_neg (show ¬ x % 3 = 1 by omega), if_pos hx, HF.pd]
  refine ⟨?_, fun q o => wd_fr (Or.inl rfl) o⟩
  have := FR_pay (q := x / 16 % 2) (x := x / 64 % 9 + 1) HF HI h4 (by omega) (by omega) (by omega) (by omega)
  rw [show 100 + 100 * (x / 16 % 2) + (x / 64 % 9 + 1) = 100 + 100 * (x / 16 % 2) + x / 64 % 9 + 1 by omega] at this
  exact this
