/-! What holds of the class's rows and texts. -/
def CI (g : Mm) : Prop :=
  (∀ r, 0 ≤ r → r < 6 → -1 ≤ g (6 + r) 1 ∧ g (6 + r) 1 ≤ 40) ∧ (∀ t, 0 ≤ t → t < 4 → -1 ≤ g (6 + (6 + t)) 1 ∧ g (6 + (6 + t)) 1 ≤ 60) ∧
  (∀ r j, 0 ≤ r → r < 6 → R32 (g (16 + r) j)) ∧ (∀ t j, 0 ≤ t → t < 4 → -128 ≤ g (16 + (6 + t)) j ∧ g (16 + (6 + t)) j ≤ 127)
theorem CI.sz {g : Mm} (H : CI g) {r : Int} (h0 : 0 ≤ r) (h1 : r < 6) : -1 ≤ g (6 + r) 1 ∧ g (6 + r) 1 ≤ 40 := H.1 r h0 h1
theorem CI.ln {g : Mm} (H : CI g) {t : Int} (h0 : 0 ≤ t) (h1 : t < 4) : -1 ≤ g (6 + (6 + t)) 1 ∧ g (6 + (6 + t)) 1 ≤ 60 := H.2.1 t h0 h1
theorem CI.it {g : Mm} (H : CI g) {r : Int} (h0 : 0 ≤ r) (h1 : r < 6) (j : Int) : R32 (g (16 + r) j) := H.2.2.1 r j h0 h1
theorem CI.by {g : Mm} (H : CI g) {t : Int} (h0 : 0 ≤ t) (h1 : t < 4) (j : Int) : -128 ≤ g (16 + (6 + t)) j ∧ g (16 + (6 + t)) j ≤ 127 := H.2.2.2 t j h0 h1
theorem rl40 {r : Int} (h : r < 6) : ((rlen r : Nat) : Int) = 40 := by unfold rlen; rw [if_pos h]; rfl
theorem rl60 {r : Int} (h : 6 ≤ r) : ((rlen r : Nat) : Int) = 60 := by unfold rlen; rw [if_neg (by omega)]; rfl
theorem un1_o {g : Mm} {f k t q : Int} (h1 : q ≠ 26 + f) (h2 : q < 56 + 6 * f ∨ 62 + 6 * f ≤ q) : un1 g f k t q = g q := by
  unfold un1
  split
  · exact mu_ne h1
  · split
    · exact mu_ne h1
    · split
      · exact mu_ne (by omega)
      · rfl
theorem unN_o {g : Mm} {f dc q : Int} (h1 : q ≠ 26 + f) (h2 : q < 56 + 6 * f ∨ 62 + 6 * f ≤ q) : ∀ c, unN g f dc c q = g q
  | 0 => rfl
  | c + 1 => by
    show mu _ _ _ _ q = g q
    rw [mu_ne h1, un1_o h1 h2, unN_o h1 h2 c]
