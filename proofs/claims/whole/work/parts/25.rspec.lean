/-! Reading a TEXT: bytes, blanks, runs of letters, BEASTS; the reader's state over a memory. -/
def pS (g : Mm) (D : Int → Int) (p w : Int) : Mm := mu (mu (ru g 7 D) 0 15 p) 0 16 w
theorem pS_p (g : Mm) (D : Int → Int) (p w : Int) : pS g D p w 0 15 = p := by unfold pS mu; simp
theorem pS_w (g : Mm) (D : Int → Int) (p w : Int) : pS g D p w 0 16 = w := by unfold pS mu; simp
theorem pS_D (g : Mm) (D : Int → Int) (p w : Int) : pS g D p w 7 = D := by unfold pS; rw [mu_ne (by decide), mu_ne (by decide), ru_at]
theorem pS_o {g : Mm} {D : Int → Int} {p w q : Int} (h : q ≠ 0) (h2 : q ≠ 7) : pS g D p w q = g q := by unfold pS; rw [mu_ne h, mu_ne h, ru_ne h2]
theorem pS_1 (g : Mm) (D : Int → Int) (p w z : Int) : mu (pS g D p w) 0 15 z = pS g D z w := by
  funext q j; unfold pS mu; by_cases h : q = 0 ∧ j = 15
  · obtain ⟨rfl, rfl⟩ := h; simp
  · simp [h]
theorem pS_2 (g : Mm) (D : Int → Int) (p w z : Int) : mu (pS g D p w) 0 16 z = pS g D p z := by unfold pS; rw [mu_mu]
theorem pS_3 (g : Mm) (D : Int → Int) (p w j z : Int) : mu (pS g D p w) 7 j z = pS g (fu D j z) p w := by
  funext q i; unfold pS mu ru fu
  by_cases h : q = 7
  · subst h; by_cases hi : i = j <;> simp [hi]
  · simp [h]
/-- the byte at a place, -1000 at the end -/
def lk (B : Int → Int) (L p : Int) : Int := if p < L then B p else -1000
def skN (B : Int → Int) (L : Int) : Nat → Int → Int
  | 0, p => p
  | n + 1, p => if lk B L p = 32 then skN B L n (p + 1) else p
def sk (B : Int → Int) (L p : Int) : Int := skN B L (61 - p).toNat p
theorem lk_32 {B : Int → Int} {L p : Int} (h : ¬ lk B L p = -1000) : p < L := by
  unfold lk at h; split at h
  · assumption
  · exact absurd rfl h
theorem sk_y {B : Int → Int} {L p : Int} (hL : L ≤ 60) (h : lk B L p = 32) : sk B L p = sk B L (p + 1) := by
  have := lk_32 (B := B) (L := L) (p := p) (by omega)
  unfold sk
  obtain ⟨n, hn⟩ : ∃ n, (61 - p).toNat = n + 1 := ⟨(61 - p).toNat - 1, by omega⟩
  rw [hn, show (61 - (p + 1)).toNat = n by omega]
  conv => lhs; unfold skN
  rw [if_pos h]
theorem sk_n {B : Int → Int} {L p : Int} (h : ¬ lk B L p = 32) : sk B L p = p := by
  unfold sk
  generalize (61 - p).toNat = n
  cases n with
  | zero => rfl
  | succ n => unfold skN; rw [if_neg h]
theorem skN_r (B : Int → Int) {L : Int} (hL : L ≤ 60) : ∀ (n : Nat) (p : Int), p ≤ 60 → p ≤ skN B L n p ∧ skN B L n p ≤ 60
  | 0, p, h => ⟨Int.le_refl _, h⟩
  | n + 1, p, h => by
    unfold skN
    by_cases q : lk B L p = 32
    · have := lk_32 (B := B) (L := L) (p := p) (by omega)
      have ih := skN_r B hL n (p + 1) (by omega)
      rw [if_pos q]; omega
    · rw [if_neg q]; omega
theorem sk_r (B : Int → Int) {L p : Int} (hL : L ≤ 60) (hp : p ≤ 60) : p ≤ sk B L p ∧ sk B L p ≤ 60 := skN_r B hL _ p hp
/-- a run of signs lo .. hi: it ends at the first place that is none such -/
def ntP (B : Int → Int) (L lo hi p : Int) : Bool := decide (¬ (lo ≤ lk B L p ∧ lk B L p ≤ hi))
def rX (B : Int → Int) (L lo hi : Int) (mx : Nat) (q : Int) : Int := ff (ntP B L lo hi) (mx + 1) q
def rP (B : Int → Int) (L lo hi : Int) (mx : Nat) (q : Int) : Int := if rX B L lo hi mx q = -1 then q + mx else rX B L lo hi mx q
def rW (B : Int → Int) (L lo hi : Int) (mx : Nat) (q : Int) : Int := if rX B L lo hi mx q = -1 ∨ rX B L lo hi mx q = q then 0 else 1
def rD (B : Int → Int) (L : Int) (lo bs cs q : Int) (D : Int → Int) : Nat → Int → Int
  | 0 => D
  | k + 1 => fu (fu (rD B L lo bs cs q D k) (bs + k) (lk B L (q + k) - lo)) cs ((k : Int) + 1)
/-- an item: a letter, then a run -/
def iP (B : Int → Int) (L c lo hi : Int) (mx : Nat) (p : Int) : Int := if lk B L (sk B L p) = c then rP B L lo hi mx (sk B L p + 1) else sk B L p
def iW (B : Int → Int) (L c lo hi : Int) (mx : Nat) (p : Int) : Int := if lk B L (sk B L p) = c then rW B L lo hi mx (sk B L p + 1) else 0
def iD (B : Int → Int) (L c lo hi bs cs : Int) (mx : Nat) (p : Int) (D : Int → Int) : Int → Int := if lk B L (sk B L p) = c then rD B L lo bs cs (sk B L p + 1) D (rP B L lo hi mx (sk B L p + 1) - (sk B L p + 1)).toNat else D
def kd (c : Int) : Int := if c = 99 then 0 else if c = 100 then 1 else if c = 121 then 2 else if c = 117 then 3 else if c = 104 then 4 else if c = 120 then 5 else -9
theorem kd_r (c : Int) : kd c = -9 ∨ (0 ≤ kd c ∧ kd c ≤ 5) := by
  unfold kd
  repeat' split
  all_goals omega
theorem rD_cs (B : Int → Int) (L lo bs cs q : Int) (D : Int → Int) {k : Int} (h : 0 < k) : rD B L lo bs cs q D k.toNat cs = k := by
  obtain ⟨n, hn⟩ : ∃ n : Nat, k = (n : Int) + 1 := ⟨(k - 1).toNat, by omega⟩
  subst hn
  rw [show ((n : Int) + 1).toNat = n + 1 by omega]
  show fu _ cs _ cs = _
  rw [fu_at]
theorem rD_0 (B : Int → Int) (L lo bs cs q : Int) (D : Int → Int) (hD : D cs = 0) {k : Int} (h : 0 ≤ k) : rD B L lo bs cs q D k.toNat cs = k := by
  by_cases h1 : 0 < k
  · exact rD_cs B L lo bs cs q D h1
  · rw [show k = 0 by omega]; exact hD
theorem rD_s (B : Int → Int) (L lo bs cs q : Int) (D : Int → Int) {k : Int} (h : 0 ≤ k) : rD B L lo bs cs q D (k + 1).toNat = fu (fu (rD B L lo bs cs q D k.toNat) (bs + k) (lk B L (q + k) - lo)) cs (k + 1) := by
  obtain ⟨n, rfl⟩ := Int.eq_ofNat_of_zero_le h
  rfl
/-- a BEAST at p -/
abbrev b1 (B : Int → Int) (L : Int) (D : Int → Int) (p : Int) : Prop := ¬ kd (lk B L p) = -9 ∧ D 0 < 6
abbrev b2 (B : Int → Int) (L p : Int) : Prop := 1 ≤ lk B L (p + 1) - 48 ∧ lk B L (p + 1) - 48 ≤ 9
abbrev b3 (B : Int → Int) (L p : Int) : Prop := 0 ≤ lk B L (p + 2) - 97 ∧ lk B L (p + 2) - 97 ≤ 1
def bP (B : Int → Int) (L : Int) (D : Int → Int) (p : Int) : Int := if b1 B L D p then (if b2 B L p then (if b3 B L p then p + 3 else p + 2) else p + 1) else p
def bW (B : Int → Int) (L : Int) (D : Int → Int) (p : Int) : Int := if b1 B L D p ∧ b2 B L p ∧ b3 B L p then 1 else 0
def bD (B : Int → Int) (L : Int) (D : Int → Int) (p : Int) : Int → Int := if b1 B L D p ∧ b2 B L p ∧ b3 B L p then fu (fu (fu (fu D (20 + 3 * D 0) (kd (lk B L p))) (20 + 3 * D 0 + 1) (lk B L (p + 1) - 48)) (20 + 3 * D 0 + 2) (lk B L (p + 2) - 97)) 0 (D 0 + 1) else D
/-- BEASTS one behind another, blanks between: the place, whether it's well, the farms -/
def bsL (B : Int → Int) (L : Int) : Nat → (Int → Int) → Int → Int × Int × (Int → Int)
  | 0, D, p => (p, 1, D)
  | n + 1, D, p => if bW B L D p = 0 then (bP B L D p, 0, bD B L D p) else if sk B L (bP B L D p) < L then bsL B L n (bD B L D p) (sk B L (bP B L D p)) else (sk B L (bP B L D p), 1, bD B L D p)
def rs (B : Int → Int) (L : Int) (n : Nat) (x w : Int) (E : Int → Int) : Int × Int × (Int → Int) := if w = 0 then (x, 0, E) else if x < L then bsL B L n E x else (x, 1, E)
theorem bsL_s (B : Int → Int) (L : Int) (n : Nat) (D : Int → Int) (p : Int) : bsL B L (n + 1) D p = rs B L n (if bW B L D p = 0 then bP B L D p else sk B L (bP B L D p)) (bW B L D p) (bD B L D p) := by
  unfold rs
  conv => lhs; unfold bsL
  by_cases h : bW B L D p = 0
  · rw [if_pos h, if_pos h, if_pos h]
  · rw [if_neg h, if_neg h, if_neg h]
/-- the whole TEXT: blanks, turns, blanks, milk, blanks, beasts -/
def qT (B : Int → Int) (L : Int) (D : Int → Int) : Int × Int × (Int → Int) := (iP B L 116 97 98 8 0, iW B L 116 97 98 8 0, iD B L 116 97 98 6 1 8 0 D)
def qM (B : Int → Int) (L : Int) (D : Int → Int) : Int × Int × (Int → Int) := if (qT B L D).2.1 = 0 then qT B L D else (iP B L 109 48 57 6 (qT B L D).1, iW B L 109 48 57 6 (qT B L D).1, iD B L 109 48 57 14 2 6 (qT B L D).1 (qT B L D).2.2)
def qB (B : Int → Int) (L : Int) (D : Int → Int) : Int × Int × (Int → Int) := if (qM B L D).2.1 = 0 then qM B L D else bsL B L 8 (qM B L D).2.2 (sk B L (qM B L D).1)
def an (w b : Int) : Int := if w = 1 ∧ b = 1 then 1 else 0
theorem an_11 : an 1 1 = 1 := rfl
theorem an_10 : an 1 0 = 0 := rfl
theorem an_0 (b : Int) : an 0 b = 0 := rfl
theorem an_t {P : Prop} [Decidable P] (h : P) : an 1 (bZ P) = 1 := by unfold bZ; rw [if_pos h]; rfl
theorem an_f {P : Prop} [Decidable P] (h : ¬ P) : an 1 (bZ P) = 0 := by unfold bZ; rw [if_neg h]; rfl
theorem bZ_01 (P : Prop) [Decidable P] : bZ P = 0 ∨ bZ P = 1 := by unfold bZ; by_cases h : P <;> simp [h]
theorem bZ_1 (P : Prop) [Decidable P] : bZ P = 1 ↔ P := by unfold bZ; by_cases h : P <;> simp [h]
theorem it_n {B : Int → Int} {L c lo hi bs cs p : Int} {mx : Nat} {D : Int → Int} (hc : ¬ lk B L (sk B L p) = c) : iP B L c lo hi mx p = sk B L p ∧ iW B L c lo hi mx p = 0 ∧ iD B L c lo hi bs cs mx p D = D := by
  unfold iP iW iD; rw [if_neg hc, if_neg hc, if_neg hc]; exact ⟨rfl, rfl, rfl⟩
theorem it_y {B : Int → Int} {L c lo hi bs cs p k : Int} {mx : Nat} {D : Int → Int} (hc : lk B L (sk B L p) = c) (hp : 0 ≤ sk B L p) (hk : 0 < k) (h : rX B L lo hi mx (sk B L p + 1) = sk B L p + 1 + k) : iP B L c lo hi mx p = sk B L p + 1 + k ∧ iW B L c lo hi mx p = 1 ∧ iD B L c lo hi bs cs mx p D = rD B L lo bs cs (sk B L p + 1) D k.toNat := by
  unfold iP iW iD rP rW
  rw [if_pos hc, if_pos hc, if_pos hc, h, if_neg (by omega), if_neg (by omega)]
  refine ⟨rfl, rfl, ?_⟩
  rw [show (sk B L p + 1 + k - (sk B L p + 1)).toNat = k.toNat by omega]
theorem it_0 {B : Int → Int} {L c lo hi bs cs p : Int} {mx : Nat} {D : Int → Int} (hc : lk B L (sk B L p) = c) (hp : 0 ≤ sk B L p) (h : rX B L lo hi mx (sk B L p + 1) = sk B L p + 1) : iP B L c lo hi mx p = sk B L p + 1 ∧ iW B L c lo hi mx p = 0 ∧ iD B L c lo hi bs cs mx p D = D := by
  unfold iP iW iD rP rW
  rw [if_pos hc, if_pos hc, if_pos hc, h, if_neg (by omega), if_pos (Or.inr rfl)]
  refine ⟨rfl, rfl, ?_⟩
  rw [show (sk B L p + 1 - (sk B L p + 1)).toNat = 0 by omega]; rfl
theorem it_m {B : Int → Int} {L c lo hi bs cs p : Int} {mx : Nat} {D : Int → Int} (hc : lk B L (sk B L p) = c) (h : rX B L lo hi mx (sk B L p + 1) = -1) : iP B L c lo hi mx p = sk B L p + 1 + mx ∧ iW B L c lo hi mx p = 0 ∧ iD B L c lo hi bs cs mx p D = rD B L lo bs cs (sk B L p + 1) D mx := by
  unfold iP iW iD rP rW
  rw [if_pos hc, if_pos hc, if_pos hc, h, if_pos rfl, if_pos (Or.inl rfl)]
  refine ⟨rfl, rfl, ?_⟩
  rw [show (sk B L p + 1 + (mx : Int) - (sk B L p + 1)).toNat = mx by omega]
theorem iW_01 (B : Int → Int) (L c lo hi : Int) (mx : Nat) (p : Int) : iW B L c lo hi mx p = 0 ∨ iW B L c lo hi mx p = 1 := by
  unfold iW rW; repeat' split
  all_goals omega
/-- the end of a run is no place behind the text's size -/
theorem rP_r {B : Int → Int} {L lo hi : Int} {mx : Nat} {q : Int} (hq : 0 ≤ q) (hq2 : q ≤ 60) (hL : L ≤ 60) (hlo : -999 ≤ lo) : q ≤ rP B L lo hi mx q ∧ rP B L lo hi mx q ≤ 60 := by
  have key : ∀ (n : Nat) (p : Int), 0 ≤ p → p ≤ 60 → (ff (ntP B L lo hi) n p = -1 → p + n ≤ 60) ∧ (ff (ntP B L lo hi) n p ≠ -1 → p ≤ ff (ntP B L lo hi) n p ∧ ff (ntP B L lo hi) n p ≤ 60) := by
    intro n
    induction n with
    | zero => intro p h0 h1; exact ⟨fun _ => by omega, fun h => absurd rfl h⟩
    | succ n ih =>
      intro p h0 h1
      unfold ff
      by_cases h : ntP B L lo hi p = true
      · rw [if_pos h]; exact ⟨fun h => by omega, fun _ => ⟨by omega, h1⟩⟩
      · rw [if_neg h]
        have hl : p < L := by
          have h2 : lo ≤ lk B L p ∧ lk B L p ≤ hi := Classical.byContradiction (fun z => h (decide_eq_true z))
          exact lk_32 (B := B) (by omega)
        have := ih (p + 1) (by omega) (by omega)
        exact ⟨fun z => by have := this.1 z; omega, fun z => by have := this.2 z; omega⟩
  have k := key (mx + 1) q hq hq2
  unfold rP rX
  split
  · have := k.1 (by assumption); omega
  · exact k.2 (by assumption)
theorem iP_r {B : Int → Int} {L c lo hi : Int} {mx : Nat} {p : Int} (hp : 0 ≤ p) (hp2 : p ≤ 60) (hL : L ≤ 60) (hlo : -999 ≤ lo) (hc : ¬ c = -1000) : p ≤ iP B L c lo hi mx p ∧ iP B L c lo hi mx p ≤ 60 := by
  have h := sk_r B hL hp2
  unfold iP
  split
  · have hl := lk_32 (B := B) (L := L) (p := sk B L p) (by omega)
    have := rP_r (B := B) (L := L) (lo := lo) (hi := hi) (mx := mx) (q := sk B L p + 1) (by omega) (by omega) hL hlo
    omega
  · omega
theorem rD_o {B : Int → Int} {L lo bs cs q : Int} {D : Int → Int} {j : Int} (h : j ≠ cs) (n : Nat) (h2 : j < bs ∨ bs + n ≤ j) : rD B L lo bs cs q D n j = D j := by
  induction n with
  | zero => rfl
  | succ n ih =>
    show fu (fu _ _ _) _ _ j = D j
    rw [fu_ne h, fu_ne (by omega), ih (by omega)]
def zD (g : Mm) : Int → Int := fun j => if 0 ≤ j ∧ j < 98 then 0 else g 7 j
theorem zD_0 (g : Mm) {j : Int} (h : 0 ≤ j) (h2 : j < 98) : zD g j = 0 := by unfold zD; rw [if_pos ⟨h, h2⟩]
theorem fls_zD (g : Mm) : fls g 7 0 98 0 = ru g 7 (zD g) := by
  funext p j; unfold fls ru zD
  by_cases h : p = 7
  · subst h; by_cases h2 : 0 ≤ j ∧ j < 98
    · rw [if_pos ⟨rfl, h2.1, by omega⟩, if_pos rfl, if_pos h2]
    · rw [if_neg (fun z => h2 ⟨z.2.1, by omega⟩), if_pos rfl, if_neg h2]
  · rw [if_neg (fun z => h z.1), if_neg h]
theorem lk_bd {B : Int → Int} (h : ∀ j, -128 ≤ B j ∧ B j ≤ 127) (L p : Int) : -1000 ≤ lk B L p ∧ lk B L p ≤ 127 := by
  have := h p; unfold lk; split <;> omega
theorem kd_l {B : Int → Int} {L p : Int} (h : ¬ kd (lk B L p) = -9) : p < L := by
  refine lk_32 (B := B) (fun z => h ?_); rw [z]; rfl
theorem bW_01 (B : Int → Int) (L : Int) (D : Int → Int) (p : Int) : bW B L D p = 0 ∨ bW B L D p = 1 := by
  unfold bW; split <;> simp
theorem bP_r {B : Int → Int} {L : Int} {D : Int → Int} {p : Int} (hp : 0 ≤ p) (hL : L ≤ 60) (hp2 : p ≤ 60) : p ≤ bP B L D p ∧ bP B L D p ≤ 60 := by
  unfold bP
  by_cases h1 : b1 B L D p
  · have l1 := kd_l h1.1
    rw [if_pos h1]
    by_cases h2 : b2 B L p
    · have l2 := lk_32 (B := B) (L := L) (p := p + 1) (by have := h2.1; omega)
      rw [if_pos h2]
      by_cases h3 : b3 B L p
      · have l3 := lk_32 (B := B) (L := L) (p := p + 2) (by have := h3.1; omega)
        rw [if_pos h3]; omega
      · rw [if_neg h3]; omega
    · rw [if_neg h2]; omega
  · rw [if_neg h1]; omega
theorem bD_0 {B : Int → Int} {L : Int} {D : Int → Int} {p : Int} : bD B L D p 0 = D 0 + bW B L D p := by
  unfold bD bW
  by_cases h : b1 B L D p ∧ b2 B L p ∧ b3 B L p
  · rw [if_pos h, if_pos h, fu_at]
  · rw [if_neg h, if_neg h, Int.add_zero]
theorem bW_6 {B : Int → Int} {L : Int} {D : Int → Int} {p : Int} (h : bW B L D p = 1) : D 0 < 6 := by
  unfold bW at h; split at h
  · rename_i z; exact z.1.2
  · exact absurd h (by decide)
theorem rs_s {B : Int → Int} {L : Int} {n x w : Int} {E : Int → Int} (hw : ¬ w = 0) (hx : x < L) (hn : 0 < n) : rs B L n.toNat x w E = rs B L (n - 1).toNat (if bW B L E x = 0 then bP B L E x else sk B L (bP B L E x)) (bW B L E x) (bD B L E x) := by
  conv => lhs; unfold rs
  rw [if_neg hw, if_pos hx, show n.toNat = (n - 1).toNat + 1 by omega, bsL_s]
theorem rs_0 {B : Int → Int} {L : Int} {n : Nat} {x w : Int} {E : Int → Int} (hw : w = 0) : rs B L n x w E = (x, 0, E) := by unfold rs; rw [if_pos hw]
theorem rs_1 {B : Int → Int} {L : Int} {n : Nat} {x w : Int} {E : Int → Int} (hw : ¬ w = 0) (hx : ¬ x < L) : rs B L n x w E = (x, 1, E) := by unfold rs; rw [if_neg hw, if_neg hx]
theorem qM_y {B : Int → Int} {L : Int} {D : Int → Int} (h : (qT B L D).2.1 = 0) : qM B L D = qT B L D := by unfold qM; rw [if_pos h]
theorem qM_n {B : Int → Int} {L : Int} {D : Int → Int} (h : ¬ (qT B L D).2.1 = 0) : qM B L D = (iP B L 109 48 57 6 (qT B L D).1, iW B L 109 48 57 6 (qT B L D).1, iD B L 109 48 57 14 2 6 (qT B L D).1 (qT B L D).2.2) := by unfold qM; rw [if_neg h]
theorem qT_01 (B : Int → Int) (L : Int) (D : Int → Int) : (qT B L D).2.1 = 0 ∨ (qT B L D).2.1 = 1 := iW_01 _ _ _ _ _ _ _
theorem qM_01 (B : Int → Int) (L : Int) (D : Int → Int) : (qM B L D).2.1 = 0 ∨ (qM B L D).2.1 = 1 := by
  by_cases h : (qT B L D).2.1 = 0
  · rw [qM_y h]; exact qT_01 B L D
  · rw [qM_n h]; exact iW_01 _ _ _ _ _ _ _
theorem rP_w {B : Int → Int} {L lo hi : Int} {mx : Nat} {q : Int} (hq : 0 ≤ q) : q ≤ rP B L lo hi mx q ∧ rP B L lo hi mx q ≤ q + mx := by
  have key : ∀ (n : Nat) (p : Int), 0 ≤ p → (ff (ntP B L lo hi) n p ≠ -1 → p ≤ ff (ntP B L lo hi) n p ∧ ff (ntP B L lo hi) n p < p + n) := by
    intro n
    induction n with
    | zero => intro p _ h; exact absurd rfl h
    | succ n ih =>
      intro p h0 h
      unfold ff at h ⊢
      by_cases hc : ntP B L lo hi p = true
      · rw [if_pos hc]; omega
      · rw [if_neg hc] at h ⊢; have := ih (p + 1) (by omega) h; omega
  have k := key (mx + 1) q hq
  unfold rP rX
  split
  · omega
  · have := k (by assumption); omega
theorem iD_o {B : Int → Int} {L c lo hi bs cs : Int} {mx : Nat} {p : Int} {D : Int → Int} {j : Int} (hp : 0 ≤ sk B L p) (h : j ≠ cs) (h2 : j < bs ∨ bs + mx ≤ j) : iD B L c lo hi bs cs mx p D j = D j := by
  unfold iD
  split
  · have := rP_w (B := B) (L := L) (lo := lo) (hi := hi) (mx := mx) (q := sk B L p + 1) (by omega)
    exact rD_o h _ (by omega)
  · rfl
theorem qT_o {B : Int → Int} {L : Int} {D : Int → Int} {j : Int} (hL : L ≤ 60) (h : j ≠ 1) (h2 : j < 6 ∨ 14 ≤ j) : (qT B L D).2.2 j = D j :=
  iD_o (by have := sk_r B (L := L) (p := 0) hL (by omega); omega) h (by omega)
theorem qT_r {B : Int → Int} {L : Int} {D : Int → Int} (hL : L ≤ 60) : 0 ≤ (qT B L D).1 ∧ (qT B L D).1 ≤ 60 :=
  iP_r (by omega) (by omega) hL (by omega) (by omega)
theorem qM_r {B : Int → Int} {L : Int} {D : Int → Int} (hL : L ≤ 60) : 0 ≤ (qM B L D).1 ∧ (qM B L D).1 ≤ 60 := by
  have h0 := qT_r (B := B) (D := D) hL
  by_cases h : (qT B L D).2.1 = 0
  · rw [qM_y h]; exact h0
  · rw [qM_n h]
    have := iP_r (B := B) (L := L) (c := 109) (lo := 48) (hi := 57) (mx := 6) (p := (qT B L D).1) (by omega) (by omega) hL (by omega) (by omega)
    show 0 ≤ iP B L 109 48 57 6 (qT B L D).1 ∧ iP B L 109 48 57 6 (qT B L D).1 ≤ 60
    omega
theorem qM_o {B : Int → Int} {L : Int} {D : Int → Int} {j : Int} (hL : L ≤ 60) (h : j ≠ 1) (h1 : j ≠ 2) (h2 : j < 6 ∨ 20 ≤ j) : (qM B L D).2.2 j = D j := by
  have h0 := qT_r (B := B) (D := D) hL
  by_cases z : (qT B L D).2.1 = 0
  · rw [qM_y z]; exact qT_o hL h (by omega)
  · rw [qM_n z]
    show iD B L 109 48 57 14 2 6 (qT B L D).1 (qT B L D).2.2 j = D j
    rw [iD_o (by have := sk_r B (L := L) (p := (qT B L D).1) hL (by omega); omega) h1 (by omega)]
    exact qT_o hL h (by omega)
theorem qB_y {B : Int → Int} {L : Int} {D : Int → Int} (h : (qM B L D).2.1 = 0) : qB B L D = ((qM B L D).1, 0, (qM B L D).2.2) := by unfold qB; rw [if_pos h, ← h]
theorem qB_n {B : Int → Int} {L : Int} {D : Int → Int} (h : ¬ (qM B L D).2.1 = 0) : qB B L D = rs B L (7 : Int).toNat (if bW B L (qM B L D).2.2 (sk B L (qM B L D).1) = 0 then bP B L (qM B L D).2.2 (sk B L (qM B L D).1) else sk B L (bP B L (qM B L D).2.2 (sk B L (qM B L D).1))) (bW B L (qM B L D).2.2 (sk B L (qM B L D).1)) (bD B L (qM B L D).2.2 (sk B L (qM B L D).1)) := by unfold qB; rw [if_neg h]; exact bsL_s B L 7 _ _
theorem fls_s0 {g : Mm} {q n v : Int} (h : 0 ≤ n) : mu (fls g q 0 n v) q n v = fls g q 0 (n + 1) v := by
  have := fls_s (g := g) (q := q) (b := 0) (n := n) (v := v) h
  rwa [Int.zero_add] at this
theorem bsL_r {B : Int → Int} {L : Int} (hL : L ≤ 60) : ∀ (n : Nat) (D : Int → Int) (p : Int), 0 ≤ p → p ≤ 60 → 0 ≤ D 0 → D 0 ≤ 6 → (0 ≤ (bsL B L n D p).1 ∧ (bsL B L n D p).1 ≤ 60) ∧ ((bsL B L n D p).2.1 = 0 ∨ (bsL B L n D p).2.1 = 1) ∧ (0 ≤ (bsL B L n D p).2.2 0 ∧ (bsL B L n D p).2.2 0 ≤ 6)
  | 0, D, p, h0, h1, h2, h3 => ⟨⟨h0, h1⟩, Or.inr rfl, h2, h3⟩
  | n + 1, D, p, h0, h1, h2, h3 => by
    have hb := bP_r (B := B) (D := D) h0 hL h1
    have hw := bW_01 B L D p
    have h6 := bW_6 (B := B) (L := L) (D := D) (p := p)
    have hd := bD_0 (B := B) (L := L) (D := D) (p := p)
    have hs := sk_r B (L := L) (p := bP B L D p) hL hb.2
    unfold bsL
    by_cases c : bW B L D p = 0
    · rw [if_pos c]; exact ⟨⟨by show 0 ≤ bP B L D p; omega, hb.2⟩, Or.inl rfl, by show 0 ≤ bD B L D p 0; omega, by show bD B L D p 0 ≤ 6; omega⟩
    · rw [if_neg c]
      by_cases c2 : sk B L (bP B L D p) < L
      · rw [if_pos c2]; exact bsL_r hL n _ _ (by omega) (by omega) (by omega) (by omega)
      · rw [if_neg c2]; exact ⟨⟨by show 0 ≤ sk B L (bP B L D p); omega, hs.2⟩, Or.inr rfl, by show 0 ≤ bD B L D p 0; omega, by show bD B L D p 0 ≤ 6; omega⟩
theorem qB_r {B : Int → Int} {L : Int} {D : Int → Int} (hL : L ≤ 60) : D 0 = 0 → (0 ≤ (qB B L D).1 ∧ (qB B L D).1 ≤ 60) ∧ ((qB B L D).2.1 = 0 ∨ (qB B L D).2.1 = 1) ∧ (0 ≤ (qB B L D).2.2 0 ∧ (qB B L D).2.2 0 ≤ 6) := by
  intro hD
  have hr := qM_r (B := B) (D := D) hL
  have h0 := qM_o (B := B) (D := D) (j := 0) hL (by decide) (by decide) (by decide)
  have hs := sk_r B (L := L) (p := (qM B L D).1) hL hr.2
  unfold qB
  by_cases c : (qM B L D).2.1 = 0
  · rw [if_pos c]; exact ⟨hr, Or.inl c, by omega, by omega⟩
  · rw [if_neg c]; exact bsL_r hL _ _ _ (by omega) (by omega) (by omega) (by omega)
