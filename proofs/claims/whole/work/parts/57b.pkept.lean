/-! Pairs: turns tried, farms kept, texts read, lots. -/
theorem p_best (l : Launch) (D : va_G) (yc : Nat → ClassId) (t1 t2 : Nat) (a b : Int → Nat) (A B : Nat → Prop) {g h : Mm} (H : Rel g h) (n r : Int) (hn : R32 n) (hr : R32 r) : PI l D yc t1 t2 a b A B yX4_best wsX4_best { frames := 3, cells := 0, slots := 0, locals := 70 } yX5_best wsX5_best { frames := 2, cells := 0, slots := 0, locals := 45 } [.ref (a (0)), .int (iI (n)), .int (iI (r))] [.ref (b (0)), .int (iI (n)), .int (iI (r))] g h := by
  refine ⟨_, _, Ci_mono (c_X4_best l D yc t1 t2 a A g n r (h 6) hn hr H.F H.I) ?_, c_X5_best l D yc t1 t2 b B h n r hn hr H.I⟩
  rintro r9 g9 ⟨rfl, rfl⟩
  by_cases c : (n < 1 ∨ 8 < n) ∨ (r < 0 ∨ 5 < r)
  · refine ⟨by simp only [if_pos c], ?_⟩
    simp only [if_pos c]; exact H
  · simp only [if_neg c]
    by_cases z : h 6 0 = 0
    · refine ⟨by simp only [if_pos z], ?_⟩
      simp only [if_pos z]; exact H
    · refine ⟨by simp only [if_neg z], ?_⟩
      simp only [if_neg z]
      generalize ab (btr (h 6) n) (pw n - 1).toNat = x
      refine Rel_as ?_ _
      have hb : ∀ j, bt x (n - 1 - j) = 0 ∨ bt x (n - 1 - j) = 1 := fun j => bt01 x _
      refine Rel_rw (r := r) H (by omega) (by omega) (fun q a b => ?_) (fun q a b c => ?_) (fun j a => ?_) (fun j a => ?_) (fun j => ?_) ⟨?_, ?_, fun j => ?_, fun j a b => ?_⟩
      · rw [cpf_o b]; funext j; unfold fil; rw [if_neg (fun z => b z.1), mu_ne a]
      · rw [cpf_o b, fls_o b, mu_ne a]
      · rw [cpf_o (by decide), fls_o (by decide), mu_nj a]
      · unfold cpf fls; rw [if_neg (by omega), if_neg (by omega), mu_ne (by decide)]
      · unfold cpf fls; split
        · show R32 (if bt x (n - 1 - (j - 40 * r)) = 1 then 1 else 0)
          split <;> decide
        · split
          · decide
          · rw [mu_ne (by decide)]; exact H.1.1 j
      · rw [cpf_o (by omega), cpf_o (by decide), fls_o (by decide), mu_at]; unfold fil; rw [if_neg (by omega), mu_at]
      · rw [cpf_o (by decide), fls_o (by decide), mu_at]; omega
      · unfold cpf fil; split
        · have := hb (j - 0)
          show R32 (bt x (n - 1 - (j - 0)))
          omega
        · split
          · decide
          · rw [mu_ne (by omega)]; exact (H.1.2 r (by omega) (by omega)).2.2.1 j
      · rw [cpf_o (by decide), fls_o (by decide), mu_at] at b
        unfold cpf
        rw [if_pos ⟨rfl, by omega, by omega⟩, if_pos ⟨rfl, by omega, by omega⟩, show 40 * r + j - 40 * r = j by omega, Int.sub_zero]
        show bt x (n - 1 - j) = if bt x (n - 1 - j) = 1 then 1 else 0
        rcases hb j with h9 | h9 <;> rw [h9] <;> rfl

theorem p_keep (l : Launch) (D : va_G) (yc : Nat → ClassId) (t1 t2 : Nat) (a b : Int → Nat) (A B : Nat → Prop) {g h : Mm} (H : Rel g h) (k : Int) (hk : R32 k) : PI l D yc t1 t2 a b A B yX4_keep wsX4_keep { frames := 3, cells := 0, slots := 0, locals := 70 } yX5_keep wsX5_keep { frames := 1, cells := 0, slots := 0, locals := 24 } [.ref (a (0)), .int (iI (k))] [.ref (b (0)), .int (iI (k))] g h := by
  refine ⟨_, _, Ci_mono (c_X4_keep l D yc t1 t2 a A g k (h 6) hk H.F H.I) ?_, c_X5_keep l D yc t1 t2 b B h k hk H.I⟩
  rintro r9 g9 ⟨rfl, K⟩
  by_cases c : k < 0 ∨ 2 < k
  · rw [if_pos c] at K; subst K
    refine ⟨by simp only [if_pos c], ?_⟩
    simp only [if_pos c]; exact H
  · rw [if_neg c] at K
    simp only [if_neg c]
    by_cases z : h 6 0 = 0
    · rw [if_pos z] at K; subst K
      refine ⟨by simp only [if_pos z], ?_⟩
      simp only [if_pos z]; exact H
    · rw [if_neg z] at K
      refine ⟨by simp only [if_neg z], ?_⟩
      simp only [if_neg z]
      exact keep_Rel H (by omega) (by omega) z K.1 K.2

theorem p_on (l : Launch) (D : va_G) (yc : Nat → ClassId) (t1 t2 : Nat) (a b : Int → Nat) (A B : Nat → Prop) {g h : Mm} (H : Rel g h) (k : Int) (hk : R32 k) : PI l D yc t1 t2 a b A B yX4_on wsX4_on { frames := 3, cells := 0, slots := 0, locals := 70 } yX5_on wsX5_on { frames := 1, cells := 0, slots := 0, locals := 24 } [.ref (a (0)), .int (iI (k))] [.ref (b (0)), .int (iI (k))] g h := by
  refine ⟨_, _, Ci_mono (c_X4_on l D yc t1 t2 a A g k (if 0 ≤ k ∧ k < 3 then kG h k else fun _ => 0) hk (fun x y => by rw [if_pos ⟨x, y⟩]; exact (H.G x y).1) (kG_I H k)) ?_, c_X5_on l D yc t1 t2 b B h k hk H.M⟩
  rintro r9 g9 ⟨rfl, K⟩
  by_cases c : k < 0 ∨ 2 < k
  · rw [if_pos c] at K; subst K
    refine ⟨by simp only [if_pos c], ?_⟩
    simp only [if_pos c]; exact H
  · have c9 : 0 ≤ k ∧ k < 3 := (by omega)
    simp only [if_pos c9] at K ⊢
    rw [if_neg c] at K
    simp only [if_neg c]
    have hz := kG_z H c9.1 c9.2
    by_cases z : h 9 k = 0
    · rw [if_pos (hz.1.mpr z)] at K; subst K
      rw [if_pos (hz.1.mpr z), if_pos z, if_pos z]
      exact ⟨rfl, Rel_fn H (by decide) (by decide)⟩
    · have z1 : ¬ kG h k 0 = 0 := fun y => z (hz.1.mp y)
      rw [if_neg z1] at K
      rw [if_neg z1, if_neg z, if_neg z, hz.2 z]
      have e9 : h 9 k = 1 := by have := (H.2.2.2.1 k c9.1 c9.2).1; omega
      refine ⟨rfl, Rel_fm2 H K.2 (fun q hq => cpf_o hq) (fun j a b => ?_) K.1 (H.G c9.1 c9.2).2 (fun y => absurd y z1)⟩
      unfold cpf; rw [if_pos ⟨rfl, a, by omega⟩, kG_1 e9, Int.sub_zero]

theorem p_fault (l : Launch) (D : va_G) (yc : Nat → ClassId) (t1 t2 : Nat) (a b : Int → Nat) (A B : Nat → Prop) {g h : Mm} (H : Rel g h) (t : Int) (ht : R32 t) : PI l D yc t1 t2 a b A B yX4_fault wsX4_fault { frames := 6, cells := 0, slots := 0, locals := 138 } yX5_fault wsX5_fault { frames := 4, cells := 0, slots := 0, locals := 87 } [.ref (a (0)), .int (iI (t))] [.ref (b (0)), .int (iI (t))] g h := by
  refine ⟨_, _, Ci_mono (c_X4_fault l D yc t1 t2 a A g t (zD h) ht H.C ⟨zD_0 h (by decide) (by decide), zD_0 h (by decide) (by decide), zD_0 h (by decide) (by decide), zD_0 h (by decide) (by decide), zD_0 h (by decide) (by decide), zD_0 h (by decide) (by decide)⟩) ?_, c_X5_fault l D yc t1 t2 b B h t ht H.M⟩
  rintro r9 g9 ⟨rfl, K⟩
  by_cases c : t < 0 ∨ 3 < t
  · rw [if_pos c] at K; subst K
    refine ⟨by simp only [if_pos c], ?_⟩
    simp only [if_pos c]; exact H
  · rw [if_neg c] at K
    simp only [if_neg c]
    have hq := qB_cg (B := fun x9 => g (16 + (6 + t)) x9) (B' := fun x9 => h 5 (60 * t + x9)) (L := h 4 t) (fun p x y => H.by (by omega) (by omega) x y) (H.2.1.2 t (by omega) (by omega)).2.1.2 (zD h)
    simp only [H.ln (t := t) (by omega) (by omega)] at K ⊢
    rw [hq] at K
    rw [hq]
    by_cases z : h 4 t < 0
    · rw [if_pos z] at K; subst K
      refine ⟨by simp only [if_pos z], ?_⟩
      simp only [if_pos z]; exact Rel_fn H (by decide) (by decide)
    · rw [if_neg z] at K
      refine ⟨by simp only [if_neg z], ?_⟩
      simp only [if_neg z]
      exact CR_Rel H K

theorem p_farms (l : Launch) (D : va_G) (yc : Nat → ClassId) (t1 t2 : Nat) (a b : Int → Nat) (A B : Nat → Prop) {g h : Mm} (H : Rel g h) (t : Int) (ht : R32 t) : PI l D yc t1 t2 a b A B yX4_farms wsX4_farms { frames := 6, cells := 0, slots := 0, locals := 138 } yX5_farms wsX5_farms { frames := 4, cells := 0, slots := 0, locals := 87 } [.ref (a (0)), .int (iI (t))] [.ref (b (0)), .int (iI (t))] g h := by
  refine ⟨_, _, Ci_mono (c_X4_farms l D yc t1 t2 a A g t (zD h) ht H.C (fun j x y => zD_0 h x y)) ?_, c_X5_farms l D yc t1 t2 b B h t ht H.M⟩
  rintro r9 g9 ⟨rfl, K⟩
  by_cases c : t < 0 ∨ 3 < t
  · rw [if_pos c] at K; subst K
    refine ⟨by simp only [if_pos c], ?_⟩
    simp only [if_pos c]; exact H
  · rw [if_neg c] at K
    simp only [if_neg c]
    have hq := qB_cg (B := fun x9 => g (16 + (6 + t)) x9) (B' := fun x9 => h 5 (60 * t + x9)) (L := h 4 t) (fun p x y => H.by (by omega) (by omega) x y) (H.2.1.2 t (by omega) (by omega)).2.1.2 (zD h)
    simp only [H.ln (t := t) (by omega) (by omega)] at K ⊢
    rw [hq] at K
    rw [hq]
    by_cases z : h 4 t < 0
    · rw [if_pos z] at K; subst K
      refine ⟨by simp only [if_pos z], ?_⟩
      simp only [if_pos z]; exact Rel_fn H (by decide) (by decide)
    · rw [if_neg z] at K
      refine ⟨by simp only [if_neg z], ?_⟩
      simp only [if_neg z]
      by_cases y : (qB (fun x9 => h 5 (60 * t + x9)) (h 4 t) (zD h)).2.1 = 0
      · rw [if_pos y] at K; rw [if_pos y]; exact CR_Rel H K
      · rw [if_neg y] at K; rw [if_neg y]
        have hL := (H.2.1.2 t (by omega) (by omega)).2.1.2
        have h01 := (qB_r (B := fun x9 => h 5 (60 * t + x9)) (D := zD h) hL (zD_0 h (by decide) (by decide))).2.1
        have hF := qB_FI (B := fun x9 => h 5 (60 * t + x9)) (D := zD h) hL (fun j x y => zD_0 h x y) (by omega)
        exact farms_Rel H hF.1 hF.2 K.1 K.2.1 K.2.2

theorem p_lots (l : Launch) (D : va_G) (yc : Nat → ClassId) (t1 t2 : Nat) (a b : Int → Nat) (A B : Nat → Prop) {g h : Mm} (H : Rel g h) (n sd : Int) (hn : R32 n) (hsd : R32 sd) : PI l D yc t1 t2 a b A B yX4_lots wsX4_lots { frames := 3, cells := 0, slots := 0, locals := 66 } yX5_lots wsX5_lots { frames := 3, cells := 0, slots := 0, locals := 64 } [.ref (a (0)), .int (iI (n)), .int (iI (sd))] [.ref (b (0)), .int (iI (n)), .int (iI (sd))] g h := by
  refine ⟨_, _, Ci_mono (c_X4_lots l D yc t1 t2 a A g n sd (h 6) hn hsd H.F H.I) ?_, c_X5_lots l D yc t1 t2 b B h n sd hn hsd H.I⟩
  rintro r9 g9 ⟨rfl, K⟩
  by_cases c : (n < 1 ∨ 20 < n) ∨ (sd < 1 ∨ 2147483646 < sd)
  · rw [if_pos c] at K; subst K
    refine ⟨by simp only [if_pos c], ?_⟩
    simp only [if_pos c]; exact H
  · rw [if_neg c] at K
    simp only [if_neg c]
    by_cases z : h 6 0 = 0
    · rw [if_pos z] at K; subst K
      refine ⟨by simp only [if_pos z], ?_⟩
      simp only [if_pos z]; exact H
    · rw [if_neg z] at K
      simp only [if_neg z]
      by_cases y : 60 < h 6 4 + n
      · rw [if_pos y] at K; subst K
        refine ⟨by simp only [if_pos y], ?_⟩
        simp only [if_pos y]; exact H
      · rw [if_neg y] at K
        simp only [if_neg y]
        have hN := H.I.n
        have ok := lF_ok H.I (by omega) (s := sd) (by omega) (by omega) n.toNat (by omega)
        rw [so_ones ok.1, ok.2.1]
        exact ⟨rfl, Rel_fm H K.2 K.1 ok.1 (by rw [ok.2.1]; intro x; exact absurd x z)⟩
