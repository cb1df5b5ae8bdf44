/-! Comparing truth values; first places, best ones. -/
theorem bI_1 {P : Prop} [Decidable P] : bI P = iI 1 ↔ P := by unfold bI; by_cases h : P <;> simp [h] <;> decide
theorem bI_0 {P : Prop} [Decidable P] : bI P = iI 0 ↔ ¬ P := by unfold bI; by_cases h : P <;> simp [h] <;> decide
theorem bI_bI {P Q : Prop} [Decidable P] [Decidable Q] : bI P = bI Q ↔ (P ↔ Q) := by unfold bI; by_cases h : P <;> by_cases k : Q <;> simp [h, k]
section B2
variable {p : Program} {l : Launch} {e : Env} {R : Room} {s : State} {m : MethodId} {args : Array Value} {below : List Frame} {meth : Method} {c : Code} {cc : ByteArray} {nL : Nat} {Ts : List Cond} {own : String} {ret : Option FieldType} {D : va_G} {yc : Nat → ClassId} {t1 t2 : Nat} {A : Nat → Prop} {Q : State → Prop} {pc : Nat} {lv : List (Nat × Value)} {st : List Value} {M : Type} {ww : M → va_W} {g : M}
theorem v_icbb_eq (C : VC p s m args meth c cc nL Ts own ret D yc t1 t2 A ww) {P S : Prop} [Decidable P] [Decidable S] {off : Int} {tgt : Nat} (d : decode cc pc = .ok (.if_icmp .eq off, 3)) (ht : (pc : Int) + off = (tgt : Int)) (kt : (S ↔ P) → V p l e R s m args below meth c nL D A ww Q tgt lv st g) (kf : ¬ (S ↔ P) → V p l e R s m args below meth c nL D A ww Q (pc + 3) lv st g) : V p l e R s m args below meth c nL D A ww Q pc lv (.int (bI P) :: .int (bI S) :: st) g := fun H locs ls hP hS hl => lv_icmp_eq C.hx C.hb d ht (fun h => kt (((bI_bI (P := S) (Q := P))).mp h) H locs ls hP hS hl) (fun h => kf (fun q => h (((bI_bI (P := S) (Q := P))).mpr q)) H locs ls hP hS hl)
theorem v_icbb_ne (C : VC p s m args meth c cc nL Ts own ret D yc t1 t2 A ww) {P S : Prop} [Decidable P] [Decidable S] {off : Int} {tgt : Nat} (d : decode cc pc = .ok (.if_icmp .ne off, 3)) (ht : (pc : Int) + off = (tgt : Int)) (kt : ¬ (S ↔ P) → V p l e R s m args below meth c nL D A ww Q tgt lv st g) (kf : (S ↔ P) → V p l e R s m args below meth c nL D A ww Q (pc + 3) lv st g) : V p l e R s m args below meth c nL D A ww Q pc lv (.int (bI P) :: .int (bI S) :: st) g := fun H locs ls hP hS hl => lv_icmp_ne C.hx C.hb d ht (fun h => kt (fun q => h (((bI_bI (P := S) (Q := P))).mpr q)) H locs ls hP hS hl) (fun h => kf (((bI_bI (P := S) (Q := P))).mp h) H locs ls hP hS hl)
theorem v_icb1_eq (C : VC p s m args meth c cc nL Ts own ret D yc t1 t2 A ww) {P : Prop} [Decidable P] {off : Int} {tgt : Nat} (d : decode cc pc = .ok (.if_icmp .eq off, 3)) (ht : (pc : Int) + off = (tgt : Int)) (kt : P → V p l e R s m args below meth c nL D A ww Q tgt lv st g) (kf : ¬ P → V p l e R s m args below meth c nL D A ww Q (pc + 3) lv st g) : V p l e R s m args below meth c nL D A ww Q pc lv (.int (bI P) :: .int (iI 1) :: st) g := fun H locs ls hP hS hl => lv_icmp_eq C.hx C.hb d ht (fun h => kt ((eq_comm.trans (bI_1 (P := P))).mp h) H locs ls hP hS hl) (fun h => kf (fun q => h ((eq_comm.trans (bI_1 (P := P))).mpr q)) H locs ls hP hS hl)
theorem v_icb1_ne (C : VC p s m args meth c cc nL Ts own ret D yc t1 t2 A ww) {P : Prop} [Decidable P] {off : Int} {tgt : Nat} (d : decode cc pc = .ok (.if_icmp .ne off, 3)) (ht : (pc : Int) + off = (tgt : Int)) (kt : ¬ P → V p l e R s m args below meth c nL D A ww Q tgt lv st g) (kf : P → V p l e R s m args below meth c nL D A ww Q (pc + 3) lv st g) : V p l e R s m args below meth c nL D A ww Q pc lv (.int (bI P) :: .int (iI 1) :: st) g := fun H locs ls hP hS hl => lv_icmp_ne C.hx C.hb d ht (fun h => kt (fun q => h ((eq_comm.trans (bI_1 (P := P))).mpr q)) H locs ls hP hS hl) (fun h => kf ((eq_comm.trans (bI_1 (P := P))).mp h) H locs ls hP hS hl)
theorem v_icb0_eq (C : VC p s m args meth c cc nL Ts own ret D yc t1 t2 A ww) {P : Prop} [Decidable P] {off : Int} {tgt : Nat} (d : decode cc pc = .ok (.if_icmp .eq off, 3)) (ht : (pc : Int) + off = (tgt : Int)) (kt : ¬ P → V p l e R s m args below meth c nL D A ww Q tgt lv st g) (kf : P → V p l e R s m args below meth c nL D A ww Q (pc + 3) lv st g) : V p l e R s m args below meth c nL D A ww Q pc lv (.int (bI P) :: .int (iI 0) :: st) g := fun H locs ls hP hS hl => lv_icmp_eq C.hx C.hb d ht (fun h => kt ((eq_comm.trans (bI_0 (P := P))).mp h) H locs ls hP hS hl) (fun h => kf (Classical.byContradiction fun q => h ((eq_comm.trans (bI_0 (P := P))).mpr q)) H locs ls hP hS hl)
theorem v_icb0_ne (C : VC p s m args meth c cc nL Ts own ret D yc t1 t2 A ww) {P : Prop} [Decidable P] {off : Int} {tgt : Nat} (d : decode cc pc = .ok (.if_icmp .ne off, 3)) (ht : (pc : Int) + off = (tgt : Int)) (kt : P → V p l e R s m args below meth c nL D A ww Q tgt lv st g) (kf : ¬ P → V p l e R s m args below meth c nL D A ww Q (pc + 3) lv st g) : V p l e R s m args below meth c nL D A ww Q pc lv (.int (bI P) :: .int (iI 0) :: st) g := fun H locs ls hP hS hl => lv_icmp_ne C.hx C.hb d ht (fun h => kt (Classical.byContradiction fun q => h ((eq_comm.trans (bI_0 (P := P))).mpr q)) H locs ls hP hS hl) (fun h => kf ((eq_comm.trans (bI_0 (P := P))).mp h) H locs ls hP hS hl)
theorem v_ic1b_eq (C : VC p s m args meth c cc nL Ts own ret D yc t1 t2 A ww) {P : Prop} [Decidable P] {off : Int} {tgt : Nat} (d : decode cc pc = .ok (.if_icmp .eq off, 3)) (ht : (pc : Int) + off = (tgt : Int)) (kt : P → V p l e R s m args below meth c nL D A ww Q tgt lv st g) (kf : ¬ P → V p l e R s m args below meth c nL D A ww Q (pc + 3) lv st g) : V p l e R s m args below meth c nL D A ww Q pc lv (.int (iI 1) :: .int (bI P) :: st) g := fun H locs ls hP hS hl => lv_icmp_eq C.hx C.hb d ht (fun h => kt (((bI_1 (P := P))).mp h) H locs ls hP hS hl) (fun h => kf (fun q => h (((bI_1 (P := P))).mpr q)) H locs ls hP hS hl)
theorem v_ic1b_ne (C : VC p s m args meth c cc nL Ts own ret D yc t1 t2 A ww) {P : Prop} [Decidable P] {off : Int} {tgt : Nat} (d : decode cc pc = .ok (.if_icmp .ne off, 3)) (ht : (pc : Int) + off = (tgt : Int)) (kt : ¬ P → V p l e R s m args below meth c nL D A ww Q tgt lv st g) (kf : P → V p l e R s m args below meth c nL D A ww Q (pc + 3) lv st g) : V p l e R s m args below meth c nL D A ww Q pc lv (.int (iI 1) :: .int (bI P) :: st) g := fun H locs ls hP hS hl => lv_icmp_ne C.hx C.hb d ht (fun h => kt (fun q => h (((bI_1 (P := P))).mpr q)) H locs ls hP hS hl) (fun h => kf (((bI_1 (P := P))).mp h) H locs ls hP hS hl)
theorem v_ic0b_eq (C : VC p s m args meth c cc nL Ts own ret D yc t1 t2 A ww) {P : Prop} [Decidable P] {off : Int} {tgt : Nat} (d : decode cc pc = .ok (.if_icmp .eq off, 3)) (ht : (pc : Int) + off = (tgt : Int)) (kt : ¬ P → V p l e R s m args below meth c nL D A ww Q tgt lv st g) (kf : P → V p l e R s m args below meth c nL D A ww Q (pc + 3) lv st g) : V p l e R s m args below meth c nL D A ww Q pc lv (.int (iI 0) :: .int (bI P) :: st) g := fun H locs ls hP hS hl => lv_icmp_eq C.hx C.hb d ht (fun h => kt (((bI_0 (P := P))).mp h) H locs ls hP hS hl) (fun h => kf (Classical.byContradiction fun q => h (((bI_0 (P := P))).mpr q)) H locs ls hP hS hl)
theorem v_ic0b_ne (C : VC p s m args meth c cc nL Ts own ret D yc t1 t2 A ww) {P : Prop} [Decidable P] {off : Int} {tgt : Nat} (d : decode cc pc = .ok (.if_icmp .ne off, 3)) (ht : (pc : Int) + off = (tgt : Int)) (kt : P → V p l e R s m args below meth c nL D A ww Q tgt lv st g) (kf : ¬ P → V p l e R s m args below meth c nL D A ww Q (pc + 3) lv st g) : V p l e R s m args below meth c nL D A ww Q pc lv (.int (iI 0) :: .int (bI P) :: st) g := fun H locs ls hP hS hl => lv_icmp_ne C.hx C.hb d ht (fun h => kt (Classical.byContradiction fun q => h (((bI_0 (P := P))).mpr q)) H locs ls hP hS hl) (fun h => kf (((bI_0 (P := P))).mp h) H locs ls hP hS hl)
end B2
/-- the first place from d on, within n, where p holds; -1: none -/
def ff (p : Int → Bool) : Nat → Int → Int
  | 0, _ => -1
  | n + 1, d => if p d = true then d else ff p n (d + 1)
theorem ff_y {p : Int → Bool} {N t : Int} (h : t < N) (hp : p t = true) : ff p (N - t).toNat t = t := by
  obtain ⟨n, hn⟩ : ∃ n, (N - t).toNat = n + 1 := ⟨(N - t).toNat - 1, by omega⟩
  rw [hn]; unfold ff; rw [if_pos hp]
theorem ff_n {p : Int → Bool} {N t : Int} (h : t < N) (hp : ¬ p t = true) : ff p (N - t).toNat t = ff p (N - (t + 1)).toNat (t + 1) := by
  obtain ⟨n, hn⟩ : ∃ n, (N - t).toNat = n + 1 := ⟨(N - t).toNat - 1, by omega⟩
  rw [hn, show (N - (t + 1)).toNat = n by omega]
  conv => lhs; unfold ff
  rw [if_neg hp]
theorem ff_e {p : Int → Bool} {N t : Int} (h : N ≤ t) : ff p (N - t).toNat t = -1 := by
  rw [show (N - t).toNat = 0 by omega]; rfl
theorem ff_cg {p p' : Int → Bool} {d : Int} {n : Nat} (h : ∀ e, d ≤ e → e < d + n → p e = p' e) : ff p n d = ff p' n d := by
  induction n generalizing d with
  | zero => rfl
  | succ n ih =>
    unfold ff
    rw [h d (by omega) (by omega), ih (fun e a b => h e (by omega) (by omega))]
theorem ff_r (p : Int → Bool) (n : Nat) (d : Int) (hd : 0 ≤ d) : ff p n d = -1 ∨ (d ≤ ff p n d ∧ ff p n d < d + n ∧ p (ff p n d) = true) := by
  induction n generalizing d with
  | zero => exact Or.inl rfl
  | succ n ih =>
    unfold ff
    by_cases h : p d = true
    · rw [if_pos h]; exact Or.inr ⟨by omega, by omega, h⟩
    · rw [if_neg h]
      rcases ih (d + 1) (by omega) with q | q
      · exact Or.inl q
      · exact Or.inr ⟨by omega, by omega, q.2.2⟩
/-- the best of 0 .. n, the first of as good ones -/
def ab (lt : Int → Int → Bool) : Nat → Int
  | 0 => 0
  | n + 1 => if lt ((n : Int) + 1) (ab lt n) = true then (n : Int) + 1 else ab lt n
theorem ab_s {lt : Int → Int → Bool} {t : Int} (h : 1 ≤ t) : ab lt t.toNat = if lt t (ab lt (t - 1).toNat) = true then t else ab lt (t - 1).toNat := by
  obtain ⟨n, hn⟩ : ∃ n : Nat, t = (n : Int) + 1 := ⟨(t - 1).toNat, by omega⟩
  subst hn
  rw [show ((n : Int) + 1).toNat = n + 1 by omega, show ((n : Int) + 1 - 1).toNat = n by omega]
  rfl
theorem ab_r (lt : Int → Int → Bool) (n : Nat) : 0 ≤ ab lt n ∧ ab lt n ≤ n := by
  induction n with
  | zero => exact ⟨Int.le_refl 0, Int.le_refl 0⟩
  | succ n ih => unfold ab; split <;> omega
theorem ab_cg {lt lt' : Int → Int → Bool} {n : Nat} (h : ∀ x y : Int, 0 ≤ x → x ≤ (n : Int) → 0 ≤ y → y ≤ (n : Int) → lt x y = lt' x y) : ab lt n = ab lt' n := by
  induction n with
  | zero => rfl
  | succ n ih =>
    have := ih (fun x y a b c d => h x y a (by omega) c (by omega))
    have hr := ab_r lt' n
    unfold ab
    rw [this, h _ _ (by omega) (by omega) hr.1 (by omega)]

