/-! What is well read are FARMS. -/
theorem ff_bf {p : Int → Bool} : ∀ (n : Nat) (d e : Int), ff p n d ≠ -1 → d ≤ e → e < ff p n d → ¬ p e = true
  | 0, _, _, h, _, _ => absurd rfl h
  | n + 1, d, e, h, h1, h2 => by
    unfold ff at h h2
    by_cases hp : p d = true
    · rw [if_pos hp] at h2; omega
    · rw [if_neg hp] at h h2
      by_cases he : e = d
      · rw [he]; exact hp
      · exact ff_bf n (d + 1) e h (by omega) h2
theorem rD_v {B : Int → Int} {L lo bs cs q : Int} {D : Int → Int} (hc : cs < bs) : ∀ (n : Nat) (i : Int), 0 ≤ i → i < n → rD B L lo bs cs q D n (bs + i) = lk B L (q + i) - lo
  | 0, i, h0, h1 => by omega
  | n + 1, i, h0, h1 => by
    show fu (fu _ _ _) _ _ (bs + i) = _
    rw [fu_ne (by omega)]
    by_cases hi : i = (n : Int)
    · rw [hi, fu_at]
    · rw [fu_ne (by omega)]; exact rD_v hc n i h0 (by omega)
theorem i_ok {B : Int → Int} {L c lo hi bs cs p : Int} {mx : Nat} {D : Int → Int} (hp : 0 ≤ sk B L p) (hcs : cs < bs) (h : iW B L c lo hi mx p = 1) :
    ∃ k : Int, 1 ≤ k ∧ k ≤ mx ∧ iD B L c lo hi bs cs mx p D cs = k ∧ ∀ i, 0 ≤ i → i < k → 0 ≤ iD B L c lo hi bs cs mx p D (bs + i) ∧ iD B L c lo hi bs cs mx p D (bs + i) ≤ hi - lo := by
  unfold iW at h
  by_cases hc : lk B L (sk B L p) = c
  · rw [if_pos hc] at h
    unfold rW at h
    by_cases hx : rX B L lo hi mx (sk B L p + 1) = -1 ∨ rX B L lo hi mx (sk B L p + 1) = sk B L p + 1
    · rw [if_pos hx] at h; exact absurd h (by decide)
    · have hr := ff_r (ntP B L lo hi) (mx + 1) (sk B L p + 1) (by omega)
      have hbf := fun e => ff_bf (p := ntP B L lo hi) (mx + 1) (sk B L p + 1) e (fun z => hx (Or.inl z))
      unfold rX at hx
      generalize hX : ff (ntP B L lo hi) (mx + 1) (sk B L p + 1) = X at hx hr hbf
      have hX1 : sk B L p + 1 < X ∧ X < sk B L p + 1 + (mx + 1) := by
        rcases hr with h1 | h1
        · exact absurd (Or.inl h1) hx
        · have : X ≠ sk B L p + 1 := fun z => hx (Or.inr z)
          omega
      have e : iD B L c lo hi bs cs mx p D = rD B L lo bs cs (sk B L p + 1) D (X - (sk B L p + 1)).toNat := by
        unfold iD rP rX
        rw [if_pos hc, hX, if_neg (by omega)]
      refine ⟨X - (sk B L p + 1), by omega, by omega, ?_, fun i a b => ?_⟩
      · rw [e]; exact rD_cs B L lo bs cs _ D (by omega)
      · rw [e, rD_v hcs _ i a (by omega)]
        have := hbf (sk B L p + 1 + i) (by omega) (by omega)
        have h2 : lo ≤ lk B L (sk B L p + 1 + i) ∧ lk B L (sk B L p + 1 + i) ≤ hi := Classical.byContradiction (fun z => this (decide_eq_true z))
        omega
  · rw [if_neg hc] at h; exact absurd h (by decide)
def BI (D : Int → Int) : Prop := (0 ≤ D 0 ∧ D 0 ≤ 6) ∧ ∀ i, 0 ≤ i → i < D 0 → (0 ≤ D (20 + 3 * i) ∧ D (20 + 3 * i) ≤ 5) ∧ (1 ≤ D (20 + 3 * i + 1) ∧ D (20 + 3 * i + 1) ≤ 9) ∧ (D (20 + 3 * i + 2) = 0 ∨ D (20 + 3 * i + 2) = 1)
theorem bD_BI {B : Int → Int} {L : Int} {D : Int → Int} {p : Int} (h : BI D) (hw : bW B L D p = 1) : BI (bD B L D p) ∧ bD B L D p 0 = D 0 + 1 ∧ ∀ j, (0 < j ∧ j < 20) ∨ 38 ≤ j → bD B L D p j = D j := by
  have h6 := bW_6 hw
  have h0 := bD_0 (B := B) (L := L) (D := D) (p := p)
  rw [hw] at h0
  have hP : b1 B L D p ∧ b2 B L p ∧ b3 B L p := by
    unfold bW at hw; split at hw
    · assumption
    · exact absurd hw (by decide)
  have e : bD B L D p = fu (fu (fu (fu D (20 + 3 * D 0) (kd (lk B L p))) (20 + 3 * D 0 + 1) (lk B L (p + 1) - 48)) (20 + 3 * D 0 + 2) (lk B L (p + 2) - 97)) 0 (D 0 + 1) := by unfold bD; rw [if_pos hP]
  have hk := kd_r (lk B L p)
  obtain ⟨p1, p2, p3⟩ := hP
  have hk2 := p1.1
  have := p2.1
  have := p2.2
  have := p3.1
  have := p3.2
  obtain ⟨n1, n2⟩ := h.1
  refine ⟨⟨by omega, fun i a b => ?_⟩, h0, fun j hj => ?_⟩
  · rw [h0] at b
    by_cases hi : i = D 0
    · have q1 : bD B L D p (20 + 3 * i) = kd (lk B L p) := by rw [e, hi, fu_ne (by omega), fu_ne (by omega), fu_ne (by omega), fu_at]
      have q2 : bD B L D p (20 + 3 * i + 1) = lk B L (p + 1) - 48 := by rw [e, hi, fu_ne (by omega), fu_ne (by omega), fu_at]
      have q3 : bD B L D p (20 + 3 * i + 2) = lk B L (p + 2) - 97 := by rw [e, hi, fu_ne (by omega), fu_at]
      rw [q1, q2, q3]
      omega
    · have q1 : bD B L D p (20 + 3 * i) = D (20 + 3 * i) := by rw [e, fu_ne (by omega), fu_ne (by omega), fu_ne (by omega), fu_ne (by omega)]
      have q2 : bD B L D p (20 + 3 * i + 1) = D (20 + 3 * i + 1) := by rw [e, fu_ne (by omega), fu_ne (by omega), fu_ne (by omega), fu_ne (by omega)]
      have q3 : bD B L D p (20 + 3 * i + 2) = D (20 + 3 * i + 2) := by rw [e, fu_ne (by omega), fu_ne (by omega), fu_ne (by omega), fu_ne (by omega)]
      rw [q1, q2, q3]
      exact h.2 i a (by omega)
  · rw [e, fu_ne (by omega), fu_ne (by omega), fu_ne (by omega), fu_ne (by omega)]
theorem bsL_BI {B : Int → Int} {L : Int} : ∀ (n : Nat) (D : Int → Int) (p : Int), BI D → (bsL B L n D p).2.1 = 1 → BI (bsL B L n D p).2.2 ∧ D 0 ≤ (bsL B L n D p).2.2 0 ∧ (0 < n → 0 < (bsL B L n D p).2.2 0) ∧ ∀ j, (0 < j ∧ j < 20) ∨ 38 ≤ j → (bsL B L n D p).2.2 j = D j
  | 0, D, p, h, _ => ⟨h, Int.le_refl _, fun z => absurd z (by decide), fun _ _ => rfl⟩
  | n + 1, D, p, h, hw => by
    rcases bW_01 B L D p with q | q
    · rw [bs_n q] at hw; exact absurd (show (0 : Int) = 1 from hw) (by decide)
    · obtain ⟨k1, k2, k3⟩ := bD_BI (p := p) h q
      have n1 := h.1.1
      rw [bs_y q] at hw ⊢
      by_cases hs : sk B L (bP B L D p) < L
      · rw [if_pos hs] at hw ⊢
        obtain ⟨r1, r2, r3, r4⟩ := bsL_BI n _ _ k1 hw
        exact ⟨r1, by omega, fun _ => by omega, fun j hj => by rw [r4 j hj, k3 j hj]⟩
      · rw [if_neg hs] at hw ⊢
        exact ⟨k1, by show D 0 ≤ bD B L D p 0; omega, fun _ => by show 0 < bD B L D p 0; omega, k3⟩
theorem qB_FI {B : Int → Int} {L : Int} {D : Int → Int} (hL : L ≤ 60) (hD : ∀ j, 0 ≤ j → j < 98 → D j = 0) (hw : (qB B L D).2.1 = 1) : FI (qB B L D).2.2 ∧ 0 < (qB B L D).2.2 0 := by
  by_cases h1 : (qT B L D).2.1 = 1
  · by_cases h2 : iW B L 109 48 57 6 (qT B L D).1 = 1
    · have e := qB_3 h1 h2
      have hT := qT_r (B := B) (D := D) hL
      have s0 := sk_r B (L := L) (p := 0) hL (by omega)
      have s1 := sk_r B (L := L) (p := (qT B L D).1) hL hT.2
      obtain ⟨k, a1, a2, a3, a4⟩ := i_ok (B := B) (L := L) (c := 116) (lo := 97) (hi := 98) (bs := 6) (cs := 1) (p := 0) (mx := 8) (D := D) (by omega) (by decide) h1
      obtain ⟨m, b1', b2', b3', b4'⟩ := i_ok (B := B) (L := L) (c := 109) (lo := 48) (hi := 57) (bs := 14) (cs := 2) (p := (qT B L D).1) (mx := 6) (D := (qT B L D).2.2) (by omega) (by decide) h2
      have oM : ∀ j, j ≠ 2 → (j < 14 ∨ 20 ≤ j) → iD B L 109 48 57 14 2 6 (qT B L D).1 (qT B L D).2.2 j = (qT B L D).2.2 j := fun j x y => iD_o (by omega) x (by omega)
      have oT : ∀ j, j ≠ 1 → (j < 6 ∨ 14 ≤ j) → (qT B L D).2.2 j = D j := fun j x y => qT_o hL x y
      have a3' : (qT B L D).2.2 1 = k := a3
      have a4' : ∀ i, 0 ≤ i → i < k → 0 ≤ (qT B L D).2.2 (6 + i) ∧ (qT B L D).2.2 (6 + i) ≤ 98 - 97 := a4
      generalize hE : iD B L 109 48 57 14 2 6 (qT B L D).1 (qT B L D).2.2 = E at e b3' b4' oM
      have E0 : E 0 = 0 := by rw [oM 0 (by decide) (by decide), oT 0 (by decide) (by decide)]; exact hD 0 (by decide) (by decide)
      rw [e] at hw ⊢
      obtain ⟨r1, r2, r3, r4⟩ := bsL_BI 8 E _ ⟨by omega, fun i x y => by omega⟩ hw
      generalize (bsL B L 8 E (sk B L (iP B L 109 48 57 6 (qT B L D).1))).2.2 = N at r1 r2 r3 r4
      have r3 := r3 (by decide)
      have N1 : N 1 = k := by rw [r4 1 (by decide), oM 1 (by decide) (by decide), a3']
      have N2 : N 2 = m := by rw [r4 2 (by decide), b3']
      have N3 : N 3 = 0 := by rw [r4 3 (by decide), oM 3 (by decide) (by decide), oT 3 (by decide) (by decide)]; exact hD 3 (by decide) (by decide)
      have N4 : N 4 = 0 := by rw [r4 4 (by decide), oM 4 (by decide) (by decide), oT 4 (by decide) (by decide)]; exact hD 4 (by decide) (by decide)
      have N5 : N 5 = 0 := by rw [r4 5 (by decide), oM 5 (by decide) (by decide), oT 5 (by decide) (by decide)]; exact hD 5 (by decide) (by decide)
      refine ⟨⟨by have := r1.1; omega, fun j x y => ?_, fun j x y => ?_, fun i x y => r1.2 i x y, fun j x y => by omega, by rw [N3, N4]; rfl, by rw [N5, N4]; rfl, by omega, fun _ => N4⟩, r3⟩
      · rw [N1] at y
        rw [r4 (6 + j) (by omega), oM (6 + j) (by omega) (by omega)]
        have := a4' j x y
        omega
      · rw [N2] at y
        rw [r4 (14 + j) (by omega)]
        have := b4' j x y
        omega
    · rw [qB_2 h1 h2] at hw; exact absurd (show (0 : Int) = 1 from hw) (by decide)
  · rw [qB_1 h1] at hw; exact absurd (show (0 : Int) = 1 from hw) (by decide)
theorem Z_FI : FI (fun _ => 0) := by
  refine ⟨by simp, fun j a b => Or.inl rfl, fun j a b => by simp, fun i a b => absurd b (by show ¬ i < 0; omega), fun k a b => absurd b (by show ¬ k < 0; omega), rfl, rfl, by simp, fun _ => rfl⟩
theorem Z_FR {g : Mm} {f : Int} (h : ∀ j, 5 ≤ j → j ≤ 10 → g (26 + f) j = 0) : FR g f (fun _ => 0) :=
  ⟨⟨h 7 (by decide) (by decide), h 5 (by decide) (by decide), h 6 (by decide) (by decide), h 9 (by decide) (by decide), h 8 (by decide) (by decide), h 10 (by decide) (by decide)⟩, fun j a b => absurd b (by show ¬ j < 0; omega), fun j a b => absurd b (by show ¬ j < 0; omega), fun i a b => absurd b (by show ¬ i < 0; omega), fun k a b => absurd b (by show ¬ k < 0; omega)⟩
/-- the first n kept farms cleared -/
def clr (g : Mm) (n : Int) : Mm := fun p j => if (27 ≤ p ∧ p < 27 + n) ∧ 5 ≤ j ∧ j ≤ 10 then 0 else g p j
theorem clr_0 (g : Mm) : clr g 0 = g := by funext p j; unfold clr; rw [if_neg (by omega)]
theorem clr_s {g : Mm} {n : Int} (h : 0 ≤ n) : mu (mu (mu (mu (mu (mu (clr g n) (26 + (1 + n)) 5 0) (26 + (1 + n)) 6 0) (26 + (1 + n)) 7 0) (26 + (1 + n)) 8 0) (26 + (1 + n)) 9 0) (26 + (1 + n)) 10 0 = clr g (n + 1) := by
  funext p j
  by_cases hp : p = 26 + (1 + n)
  · subst hp
    by_cases hj : 5 ≤ j ∧ j ≤ 10
    · have e : clr g (n + 1) (26 + (1 + n)) j = 0 := by unfold clr; rw [if_pos (by omega)]
      rw [e]
      rcases (show j = 5 ∨ j = 6 ∨ j = 7 ∨ j = 8 ∨ j = 9 ∨ j = 10 by omega) with rfl | rfl | rfl | rfl | rfl | rfl <;> unfold mu <;> simp
    · rw [mu_nj (by omega), mu_nj (by omega), mu_nj (by omega), mu_nj (by omega), mu_nj (by omega), mu_nj (by omega)]
      unfold clr; rw [if_neg (by omega), if_neg (by omega)]
  · rw [mu_ne hp, mu_ne hp, mu_ne hp, mu_ne hp, mu_ne hp, mu_ne hp]
    unfold clr
    by_cases h2 : (27 ≤ p ∧ p < 27 + n) ∧ 5 ≤ j ∧ j ≤ 10
    · rw [if_pos h2, if_pos (by omega)]
    · rw [if_neg h2, if_neg (by omega)]
theorem clr_o {g : Mm} {n q : Int} (h : q < 27 ∨ 27 + n ≤ q) : clr g n q = g q := by funext j; unfold clr; rw [if_neg (by omega)]
/-- the farms' places alone matter -/
theorem FR_fr {g h : Mm} {F : Int → Int} (H : FR g 0 F) (e : ∀ q, q < 27 ∨ 30 ≤ q → h q = g q) : FR h 0 F := by
  refine ⟨?_, fun j a b => ?_, fun j a b => ?_, fun i a b => ?_, fun k a b => ?_⟩
  · rw [e _ (by decide)]; exact H.1
  · rw [e _ (by decide)]; exact H.2.1 j a b
  · rw [e _ (by decide)]; exact H.2.2.1 j a b
  · rw [e _ (by omega)]; exact H.2.2.2.1 i a b
  · rw [e _ (by decide), e _ (by decide)]; exact H.2.2.2.2 k a b
