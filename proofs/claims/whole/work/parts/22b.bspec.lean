/-! Books and chances: small steps. -/
theorem wrg_bd (g : Mm) (r : Int) : 0 ≤ wrg g r ∧ wrg g r ≤ 5 := by
  unfold wrg
  repeat' split
  all_goals omega
theorem wrg_z {g : Mm} {r : Int} (h : wrg g r = 0) : 0 ≤ g 1 r ∧ g 1 r % 2 = 0 := by
  unfold wrg at h
  split at h
  · omega
  · split at h
    · omega
    · omega
theorem ft0_nn (g : Mm) (r n d b : Int) {k : Int} (h : 0 ≤ k) : 0 ≤ ft0 g r n d b k ∧ ft0 g r n d b k ≤ k := sI_01 (fun e _ _ => by split <;> omega) h
def or2 (x y : Int) : Int := ((x.toNat ||| y.toNat : Nat) : Int)
theorem or2_e {x y : Int} (hx : 0 ≤ x ∧ x ≤ 3) (hy : 0 ≤ y ∧ y ≤ 2) : iI x ||| iI y = iI (or2 x y) := by
  obtain ⟨n, rfl⟩ := Int.eq_ofNat_of_zero_le hx.1
  obtain ⟨m, rfl⟩ := Int.eq_ofNat_of_zero_le hy.1
  rw [iI_nI, iI_nI, nI_or]; unfold or2; rw [iI_nI]; rfl
theorem or2_tab : ∀ x : Fin 4, ∀ y : Fin 3, or2 (x.val : Int) (y.val : Int) = (if (x.val = 1 ∨ x.val = 3) ∨ y.val = 1 then 1 else 0) + (if (x.val = 2 ∨ x.val = 3) ∨ y.val = 2 then 2 else 0) := by decide
theorem or2_v {x y : Int} (hx : 0 ≤ x ∧ x ≤ 3) (hy : 0 ≤ y ∧ y ≤ 2) : or2 x y = (if (x = 1 ∨ x = 3) ∨ y = 1 then 1 else 0) + (if (x = 2 ∨ x = 3) ∨ y = 2 then 2 else 0) := by
  have h := or2_tab ⟨x.toNat, by omega⟩ ⟨y.toNat, by omega⟩
  simp only at h
  rw [show ((x.toNat : Nat) : Int) = x by omega, show ((y.toNat : Nat) : Int) = y by omega] at h
  rw [h]
  congr 1
  · by_cases q : (x = 1 ∨ x = 3) ∨ y = 1
    · rw [if_pos q, if_pos (by omega)]
    · rw [if_neg q, if_neg (by omega)]
  · by_cases q : (x = 2 ∨ x = 3) ∨ y = 2
    · rw [if_pos q, if_pos (by omega)]
    · rw [if_neg q, if_neg (by omega)]
theorem sure_step {P : Prop} [Decidable P] {b v c x0 x1 y0 y1 : Int} (hb : b = (if x0 = 0 then 0 else 1) + (if x1 = 0 then 0 else 2)) (hv : v = if P then 1 + c else 0) (hc : c = 0 ∨ c = 1) (n0 : 0 ≤ x0) (n1 : 0 ≤ x1)
    (e0 : y0 = x0 + if P ∧ c = 0 then 1 else 0) (e1 : y1 = x1 + if P ∧ c = 1 then 1 else 0) : or2 b v = (if y0 = 0 then 0 else 1) + (if y1 = 0 then 0 else 2) := by
  have hb3 : 0 ≤ b ∧ b ≤ 3 := by rw [hb]; split <;> split <;> omega
  have hv2 : 0 ≤ v ∧ v ≤ 2 := by rw [hv]; split <;> omega
  rw [or2_v hb3 hv2]
  by_cases hp : P
  · rw [if_pos hp] at hv
    rcases hc with h | h
    · rw [if_pos ⟨hp, h⟩] at e0
      rw [if_neg (fun z => by omega)] at e1
      rw [if_pos (Or.inr (by omega)), if_neg (show ¬ y0 = 0 by omega)]
      by_cases z0 : x0 = 0 <;> by_cases z1 : x1 = 0 <;> simp only [z0, z1, if_true, if_false] at hb <;> first | rw [if_pos (by omega), if_neg (by omega)] | rw [if_neg (by omega), if_pos (by omega)]
    · rw [if_neg (fun z => by omega)] at e0
      rw [if_pos ⟨hp, h⟩] at e1
      rw [if_pos (show (b = 2 ∨ b = 3) ∨ v = 2 by omega), if_neg (show ¬ y1 = 0 by omega)]
      by_cases z0 : x0 = 0 <;> by_cases z1 : x1 = 0 <;> simp only [z0, z1, if_true, if_false] at hb <;> first | rw [if_pos (by omega), if_neg (by omega)] | rw [if_neg (by omega), if_pos (by omega)]
  · rw [if_neg hp] at hv
    rw [if_neg (fun z => hp z.1)] at e0
    rw [if_neg (fun z => hp z.1)] at e1
    by_cases z0 : x0 = 0 <;> by_cases z1 : x1 = 0 <;> simp only [z0, z1, if_true, if_false] at hb
    · rw [if_neg (by omega), if_neg (by omega), if_pos (by omega), if_pos (by omega)]
    · rw [if_neg (by omega), if_pos (by omega), if_pos (by omega), if_neg (by omega)]
    · rw [if_pos (by omega), if_neg (by omega), if_neg (by omega), if_pos (by omega)]
    · rw [if_pos (by omega), if_pos (by omega), if_neg (by omega), if_neg (by omega)]
theorem pr_s {b t : Int} (h : 0 ≤ t) : pr b (t + 1).toNat = pr b t.toNat * b := by
  obtain ⟨n, rfl⟩ := Int.eq_ofNat_of_zero_le h
  rfl
theorem od_s {F : Int → Int} {q p t : Int} (h : 0 ≤ t) : od F q p (t + 1).toNat = od F q p t.toNat * 12 + if fOn F (F 3 + t) = q then pr (12 - p) t.toNat * p else 0 := by
  obtain ⟨n, rfl⟩ := Int.eq_ofNat_of_zero_le h
  rfl
