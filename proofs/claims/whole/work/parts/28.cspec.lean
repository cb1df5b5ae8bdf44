/-! The class's reader: its sign at a place, its draft against the flat farms. -/
def sg (B : Int → Int) (L p : Int) : Int := if p < L then B p else 256
theorem sg_bd {B : Int → Int} (h : ∀ j, -128 ≤ B j ∧ B j ≤ 127) (L p : Int) : -128 ≤ sg B L p ∧ sg B L p ≤ 256 := by
  have := h p; unfold sg; split <;> omega
def fl (x : Int) : Int := if x = 97 then 0 else if x = 98 then 1 else -9
theorem sg_lk {B : Int → Int} {L p c : Int} (h : ¬ c = 256) (h2 : ¬ c = -1000) : sg B L p = c ↔ lk B L p = c := by
  unfold sg lk; split <;> omega
theorem sg_in {B : Int → Int} {L p : Int} (h : ¬ sg B L p = 256) : lk B L p = sg B L p := by
  unfold sg at h ⊢; unfold lk; split
  · rfl
  · rename_i z; rw [if_neg z] at h; exact absurd rfl h
theorem kd_sg (B : Int → Int) (L p : Int) : kd (sg B L p) = kd (lk B L p) := by
  unfold sg lk; split <;> rfl
theorem lk_e {B : Int → Int} {L p : Int} (h : L ≤ p) : lk B L p = -1000 := by unfold lk; rw [if_neg (by omega)]
theorem lk_i {B : Int → Int} {L p : Int} (h : p < L) : lk B L p = B p := by unfold lk; rw [if_pos h]
theorem fl_r (x : Int) : ((if x = 97 then 0 else if x = 98 then 1 else -9 : Int) = -9 ↔ ¬ (97 ≤ x ∧ x ≤ 98)) ∧ (97 ≤ x → x ≤ 98 → (if x = 97 then 0 else if x = 98 then 1 else -9 : Int) = x - 97) := by
  repeat' split
  all_goals omega
abbrev oc (q j : Int) : Prop := ¬ (q = 4 ∧ j = 1) ∧ ¬ q = 30 ∧ ¬ q = 35 ∧ ¬ q = 40 ∧ (q < 80 ∨ 86 ≤ q)
/-- the reader's memory g behind g0: it stands at p, its draft holds D, all else is as in g0 -/
def CR (g0 g : Mm) (D : Int → Int) (p : Int) : Prop :=
  (g 4 1 = p ∧ FR g 4 D) ∧ (0 ≤ D 0 ∧ D 0 ≤ 6 ∧ 0 ≤ D 1 ∧ D 1 ≤ 8 ∧ 0 ≤ D 2 ∧ D 2 ≤ 6 ∧ D 4 = 0) ∧ ∀ q j, oc q j → g q j = g0 q j
theorem CR.p {g0 g : Mm} {D : Int → Int} {p : Int} (h : CR g0 g D p) : g 4 1 = p := h.1.1
theorem CR.n {g0 g : Mm} {D : Int → Int} {p : Int} (h : CR g0 g D p) : 0 ≤ D 0 ∧ D 0 ≤ 6 ∧ 0 ≤ D 1 ∧ D 1 ≤ 8 ∧ 0 ≤ D 2 ∧ D 2 ≤ 6 ∧ D 4 = 0 := h.2.1
theorem CR.B {g0 g : Mm} {D : Int → Int} {p : Int} (h : CR g0 g D p) {r : Int} (h0 : 6 ≤ r) (h1 : r < 10) : g (16 + r) = g0 (16 + r) := by
  funext j; exact h.2.2 _ _ ⟨by omega, by omega, by omega, by omega, by omega⟩
theorem CR.L {g0 g : Mm} {D : Int → Int} {p : Int} (h : CR g0 g D p) {r : Int} (h0 : 6 ≤ r) (h1 : r < 10) : g (6 + r) 1 = g0 (6 + r) 1 :=
  h.2.2 _ _ ⟨by omega, by omega, by omega, by omega, by omega⟩
theorem CR.tc {g0 g : Mm} {D : Int → Int} {p : Int} (h : CR g0 g D p) : g (26 + 4) 5 = D 1 := h.1.2.tc
theorem CR.mc {g0 g : Mm} {D : Int → Int} {p : Int} (h : CR g0 g D p) : g (26 + 4) 6 = D 2 := h.1.2.mc
theorem CR.bc {g0 g : Mm} {D : Int → Int} {p : Int} (h : CR g0 g D p) : g (26 + 4) 7 = D 0 := h.1.2.bc
theorem FR_mu {g : Mm} {D : Int → Int} (h : FR g 4 D) {q j x : Int} (hq : q = 4) : FR (mu g q j x) 4 D := by
  subst hq
  refine ⟨?_, ?_, ?_, ?_, ?_⟩
  · rw [mu_ne (by decide)]; exact h.1
  · intro j a b; rw [mu_ne (by decide)]; exact h.2.1 j a b
  · intro j a b; rw [mu_ne (by decide)]; exact h.2.2.1 j a b
  · intro i a b; rw [mu_ne (by omega)]; exact h.2.2.2.1 i a b
  · intro k a b; rw [mu_ne (by decide), mu_ne (by decide)]; exact h.2.2.2.2 k a b
theorem CR_p {g0 g : Mm} {D : Int → Int} {p : Int} (h : CR g0 g D p) (x : Int) : CR g0 (mu g 4 1 x) D x :=
  ⟨⟨mu_at _ _ _ _, FR_mu h.1.2 rfl⟩, h.2.1, fun q j o => by
    have : mu g 4 1 x q j = g q j := by unfold mu; rw [if_neg o.1]
    rw [this]; exact h.2.2 q j o⟩
theorem CR_t {g0 g : Mm} {D : Int → Int} {p c : Int} (h : CR g0 g D p) (hc : D 1 = c) (h8 : c < 8) (v : Int) : CR g0 (mu (mu g (26 + 4) 5 (c + 1)) (31 + 4) c v) (fu (fu D (6 + c) v) 1 (c + 1)) p := by
  have n := h.n
  have e : ∀ j, j ≠ 1 → (j < 6 ∨ 14 ≤ j) → fu (fu D (6 + c) v) 1 (c + 1) j = D j := fun j h1 h2 => by rw [fu_ne h1, fu_ne (by omega)]
  have e1 : fu (fu D (6 + c) v) 1 (c + 1) 1 = c + 1 := fu_at _ _ _
  refine ⟨⟨?_, ⟨?_, ?_, ?_, ?_, ?_⟩⟩, ?_, ?_⟩
  · rw [mu_ne (by decide), mu_ne (by decide)]; exact h.p
  · rw [e 0 (by decide) (by decide), e1, e 2 (by decide) (by decide), e 3 (by decide) (by decide), e 4 (by decide) (by decide), e 5 (by decide) (by decide), mu_ne (by decide), mu_nj (by decide), mu_at, mu_nj (by decide), mu_nj (by decide), mu_nj (by decide), mu_nj (by decide)]
    have := h.1.2.1; exact ⟨this.1, rfl, this.2.2⟩
  · intro j a b
    rw [e1] at b
    by_cases hj : j = c
    · subst hj; rw [mu_at, fu_ne (by omega), fu_at]
    · rw [mu_nj hj, mu_ne (by decide), fu_ne (by omega), fu_ne (by omega)]; exact h.1.2.tn a (by omega)
  · intro j a b
    rw [e 2 (by decide) (by decide)] at b
    rw [mu_ne (by decide), mu_ne (by decide), e _ (by omega) (by omega)]; exact h.1.2.mk a b
  · intro i a b
    rw [e 0 (by decide) (by decide)] at b
    rw [mu_ne (by omega), mu_ne (by omega), e _ (by omega) (by omega), e _ (by omega) (by omega), e _ (by omega) (by omega)]; exact h.1.2.bs a b
  · intro k a b; rw [e 4 (by decide) (by decide)] at b; omega
  · rw [e 0 (by decide) (by decide), e1, e 2 (by decide) (by decide), e 4 (by decide) (by decide)]; omega
  · intro q j o; rw [mu_ne (by omega), mu_ne (by omega)]; exact h.2.2 q j o
theorem CR_m {g0 g : Mm} {D : Int → Int} {p c : Int} (h : CR g0 g D p) (hc : D 2 = c) (h8 : c < 6) (v : Int) : CR g0 (mu (mu g (26 + 4) 6 (c + 1)) (36 + 4) c v) (fu (fu D (14 + c) v) 2 (c + 1)) p := by
  have n := h.n
  have e : ∀ j, j ≠ 2 → (j < 14 ∨ 20 ≤ j) → fu (fu D (14 + c) v) 2 (c + 1) j = D j := fun j h1 h2 => by rw [fu_ne h1, fu_ne (by omega)]
  have e1 : fu (fu D (14 + c) v) 2 (c + 1) 2 = c + 1 := fu_at _ _ _
  refine ⟨⟨?_, ⟨?_, ?_, ?_, ?_, ?_⟩⟩, ?_, ?_⟩
  · rw [mu_ne (by decide), mu_ne (by decide)]; exact h.p
  · rw [e 0 (by decide) (by decide), e1, e 1 (by decide) (by decide), e 3 (by decide) (by decide), e 4 (by decide) (by decide), e 5 (by decide) (by decide), mu_ne (by decide), mu_nj (by decide), mu_nj (by decide), mu_at, mu_nj (by decide), mu_nj (by decide), mu_nj (by decide)]
    have := h.1.2.1; exact ⟨this.1, this.2.1, rfl, this.2.2.2⟩
  · intro j a b
    rw [e 1 (by decide) (by decide)] at b
    rw [mu_ne (by decide), mu_ne (by decide), e _ (by omega) (by omega)]; exact h.1.2.tn a b
  · intro j a b
    rw [e1] at b
    by_cases hj : j = c
    · subst hj; rw [mu_at, fu_ne (by omega), fu_at]
    · rw [mu_nj hj, mu_ne (by decide), fu_ne (by omega), fu_ne (by omega)]; exact h.1.2.mk a (by omega)
  · intro i a b
    rw [e 0 (by decide) (by decide)] at b
    rw [mu_ne (by omega), mu_ne (by omega), e _ (by omega) (by omega), e _ (by omega) (by omega), e _ (by omega) (by omega)]; exact h.1.2.bs a b
  · intro k a b; rw [e 4 (by decide) (by decide)] at b; omega
  · rw [e 0 (by decide) (by decide), e1, e 1 (by decide) (by decide), e 4 (by decide) (by decide)]; omega
  · intro q j o; rw [mu_ne (by omega), mu_ne (by omega)]; exact h.2.2 q j o
theorem setB_o {g : Mm} {q k w o p : Int} (h : p ≠ q) : setB g q k w o p = g p := by funext j; unfold setB; rw [if_neg (fun z => h z.1)]
theorem CR_b {g0 g : Mm} {D : Int → Int} {p c k w o : Int} (h : CR g0 g D p) (hc : D 0 = c) (h8 : c < 6) : CR g0 (setB (mu g (26 + 4) 7 (c + 1)) (56 + 6 * 4 + c) k w o) (fu (fu (fu (fu D (20 + 3 * c) k) (20 + 3 * c + 1) w) (20 + 3 * c + 2) o) 0 (c + 1)) p := by
  have n := h.n
  have e : ∀ j, j ≠ 0 → (j < 20 + 3 * c ∨ 20 + 3 * c + 3 ≤ j) → fu (fu (fu (fu D (20 + 3 * c) k) (20 + 3 * c + 1) w) (20 + 3 * c + 2) o) 0 (c + 1) j = D j := fun j h1 h2 => by rw [fu_ne h1, fu_ne (by omega), fu_ne (by omega), fu_ne (by omega)]
  have e1 : fu (fu (fu (fu D (20 + 3 * c) k) (20 + 3 * c + 1) w) (20 + 3 * c + 2) o) 0 (c + 1) 0 = c + 1 := fu_at _ _ _
  refine ⟨⟨?_, ⟨?_, ?_, ?_, ?_, ?_⟩⟩, ?_, ?_⟩
  · rw [setB_o (by omega), mu_ne (by decide)]; exact h.p
  · rw [e1, e 1 (by decide) (by omega), e 2 (by decide) (by omega), e 3 (by decide) (by omega), e 4 (by decide) (by omega), e 5 (by decide) (by omega), setB_o (by omega), mu_at, mu_nj (by decide), mu_nj (by decide), mu_nj (by decide), mu_nj (by decide), mu_nj (by decide)]
    have := h.1.2.1; exact ⟨rfl, this.2⟩
  · intro j a b
    rw [e 1 (by decide) (by omega)] at b
    rw [setB_o (by omega), mu_ne (by decide), e _ (by omega) (by omega)]; exact h.1.2.tn a b
  · intro j a b
    rw [e 2 (by decide) (by omega)] at b
    rw [setB_o (by omega), mu_ne (by decide), e _ (by omega) (by omega)]; exact h.1.2.mk a b
  · intro i a b
    rw [e1] at b
    by_cases hi : i = c
    · subst hi
      rw [show fu (fu (fu (fu D (20 + 3 * i) k) (20 + 3 * i + 1) w) (20 + 3 * i + 2) o) 0 (i + 1) (20 + 3 * i) = k by rw [fu_ne (by omega), fu_ne (by omega), fu_ne (by omega), fu_at],
        show fu (fu (fu (fu D (20 + 3 * i) k) (20 + 3 * i + 1) w) (20 + 3 * i + 2) o) 0 (i + 1) (20 + 3 * i + 1) = w by rw [fu_ne (by omega), fu_ne (by omega), fu_at],
        show fu (fu (fu (fu D (20 + 3 * i) k) (20 + 3 * i + 1) w) (20 + 3 * i + 2) o) 0 (i + 1) (20 + 3 * i + 2) = o by rw [fu_ne (by omega), fu_at]]
      unfold setB; simp
    · rw [setB_o (by omega), mu_ne (by omega), e _ (by omega) (by omega), e _ (by omega) (by omega), e _ (by omega) (by omega)]; exact h.1.2.bs a (by omega)
  · intro k a b; rw [e 4 (by decide) (by omega)] at b; omega
  · rw [e1, e 1 (by decide) (by omega), e 2 (by decide) (by omega), e 4 (by decide) (by omega)]; omega
  · intro q j o; rw [setB_o (by omega), mu_ne (by omega)]; exact h.2.2 q j o
theorem bs_y {B : Int → Int} {L : Int} {n : Nat} {D : Int → Int} {p : Int} (h : bW B L D p = 1) : bsL B L (n + 1) D p = if sk B L (bP B L D p) < L then bsL B L n (bD B L D p) (sk B L (bP B L D p)) else (sk B L (bP B L D p), 1, bD B L D p) := by
  conv => lhs; unfold bsL
  rw [if_neg (by omega)]
theorem bs_n {B : Int → Int} {L : Int} {n : Nat} {D : Int → Int} {p : Int} (h : bW B L D p = 0) : bsL B L (n + 1) D p = (bP B L D p, 0, bD B L D p) := by
  conv => lhs; unfold bsL
  rw [if_pos h]
theorem bsL_01 (B : Int → Int) (L : Int) : ∀ (n : Nat) (D : Int → Int) (p : Int), (bsL B L n D p).2.1 = 0 ∨ (bsL B L n D p).2.1 = 1
  | 0, _, _ => Or.inr rfl
  | n + 1, D, p => by
    rcases bW_01 B L D p with h | h
    · rw [bs_n h]; exact Or.inl rfl
    · rw [bs_y h]; split
      · exact bsL_01 B L n _ _
      · exact Or.inr rfl
theorem qB_1 {B : Int → Int} {L : Int} {D : Int → Int} (h : ¬ (qT B L D).2.1 = 1) : qB B L D = ((qT B L D).1, 0, (qT B L D).2.2) := by
  have h0 : (qT B L D).2.1 = 0 := by have := qT_01 B L D; omega
  rw [qB_y (by rw [qM_y h0]; exact h0), qM_y h0]
theorem qB_2 {B : Int → Int} {L : Int} {D : Int → Int} (h : (qT B L D).2.1 = 1) (h2 : ¬ iW B L 109 48 57 6 (qT B L D).1 = 1) : qB B L D = (iP B L 109 48 57 6 (qT B L D).1, 0, iD B L 109 48 57 14 2 6 (qT B L D).1 (qT B L D).2.2) := by
  have e := qM_n (B := B) (L := L) (D := D) (by omega)
  have h0 : (qM B L D).2.1 = 0 := by rw [e]; have := iW_01 B L 109 48 57 6 (qT B L D).1; show iW B L 109 48 57 6 (qT B L D).1 = 0; omega
  rw [qB_y h0, e]
theorem qB_3 {B : Int → Int} {L : Int} {D : Int → Int} (h : (qT B L D).2.1 = 1) (h2 : iW B L 109 48 57 6 (qT B L D).1 = 1) : qB B L D = bsL B L 8 (iD B L 109 48 57 14 2 6 (qT B L D).1 (qT B L D).2.2) (sk B L (iP B L 109 48 57 6 (qT B L D).1)) := by
  have e := qM_n (B := B) (L := L) (D := D) (by omega)
  unfold qB
  rw [if_neg (by rw [e]; show ¬ iW B L 109 48 57 6 (qT B L D).1 = 0; omega), e]
theorem CR_0 {g : Mm} {D : Int → Int} (h : D 0 = 0 ∧ D 1 = 0 ∧ D 2 = 0 ∧ D 3 = 0 ∧ D 4 = 0 ∧ D 5 = 0) : CR g (mu (mu (mu (mu (mu (mu (mu g (26 + 4) 5 0) (26 + 4) 6 0) (26 + 4) 7 0) (26 + 4) 8 0) (26 + 4) 9 0) (26 + 4) 10 0) 4 1 0) D 0 := by
  refine ⟨⟨mu_at _ _ _ _, ⟨?_, fun j a b => by omega, fun j a b => by omega, fun j a b => by omega, fun j a b => by omega⟩⟩, by omega, fun q j o => ?_⟩
  · rw [h.1, h.2.1, h.2.2.1, h.2.2.2.1, h.2.2.2.2.1, h.2.2.2.2.2]; unfold mu; simp
  · have : ∀ (X : Mm) (i v : Int), mu X (26 + 4) i v q = X q := fun X i v => mu_ne (by omega)
    have e : mu (mu (mu (mu (mu (mu (mu g (26 + 4) 5 0) (26 + 4) 6 0) (26 + 4) 7 0) (26 + 4) 8 0) (26 + 4) 9 0) (26 + 4) 10 0) 4 1 0 q j = (mu (mu (mu (mu (mu (mu g (26 + 4) 5 0) (26 + 4) 6 0) (26 + 4) 7 0) (26 + 4) 8 0) (26 + 4) 9 0) (26 + 4) 10 0) q j := by
      conv => lhs; unfold mu
      rw [if_neg o.1]; rfl
    rw [e, this, this, this, this, this, this]
