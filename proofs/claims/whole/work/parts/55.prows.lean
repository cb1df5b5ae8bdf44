/-! Pairs: rows and texts. -/
theorem p_row (l : Launch) (D : va_G) (yc : Nat → ClassId) (t1 t2 : Nat) (a b : Int → Nat) (A B : Nat → Prop) {g h : Mm} (H : Rel g h) (i n : Int) (hi : R32 i) (hn : R32 n) : PI l D yc t1 t2 a b A B yX4_row wsX4_row { frames := 3, cells := 0, slots := 0, locals := 71 } yX5_row wsX5_row { frames := 2, cells := 0, slots := 0, locals := 42 } [.ref (a (0)), .int (iI (i)), .int (iI (n))] [.ref (b (0)), .int (iI (i)), .int (iI (n))] g h := by
  refine ⟨_, _, Ci_mono (c_X4_row l D yc t1 t2 a A g i n hi hn) ?_, c_X5_row l D yc t1 t2 b B h i n hi hn⟩
  rintro r9 g9 ⟨rfl, rfl⟩
  by_cases c1 : (i < 0 ∨ 5 < i) ∨ 40 < n
  · refine ⟨by simp only [if_pos c1], ?_⟩
    simp only [if_pos c1]
    exact H
  · simp only [if_neg c1]
    by_cases c2 : n < 0
    · refine ⟨by simp only [if_pos c2], ?_⟩
      simp only [if_pos c2]
      exact Rel_fn H (by decide) (by decide)
    · simp only [if_neg c2]
      refine ⟨(by first | trivial | rfl), Rel_rw (r := i) H (by omega) (by omega) (fun q a b => ?_) (fun q a b c => ?_) (fun j a => ?_) (fun j a => ?_) (fun j => ?_) ⟨?_, ?_, fun j => ?_, fun j a b => ?_⟩⟩
      · funext j; unfold fil; rw [if_neg (fun z => b z.1), mu_ne a]
      · rw [fls_o b, mu_ne a]
      · rw [fls_o (by decide), mu_nj a]
      · unfold fls; rw [if_neg (by omega), mu_ne (by decide)]
      · unfold fls; split
        · decide
        · rw [mu_ne (by decide)]; exact H.1.1 j
      · unfold fil; rw [if_neg (by omega), mu_at, fls_o (by decide), mu_at]
      · rw [fls_o (by decide), mu_at]; omega
      · unfold fil; split
        · decide
        · rw [mu_ne (by omega)]; exact (H.1.2 i (by omega) (by omega)).2.2.1 j
      · rw [fls_o (by decide), mu_at] at b
        unfold fil fls; rw [if_pos ⟨rfl, a, b⟩, if_pos ⟨rfl, by omega, by omega⟩]

theorem p_at (l : Launch) (D : va_G) (yc : Nat → ClassId) (t1 t2 : Nat) (a b : Int → Nat) (A B : Nat → Prop) {g h : Mm} (H : Rel g h) (r i : Int) (hr : R32 r) (hi : R32 i) : PI l D yc t1 t2 a b A B yX4_at wsX4_at { frames := 2, cells := 0, slots := 0, locals := 42 } yX5_at wsX5_at { frames := 2, cells := 0, slots := 0, locals := 42 } [.ref (a (0)), .int (iI (r)), .int (iI (i))] [.ref (b (0)), .int (iI (r)), .int (iI (i))] g h := by
  refine ⟨_, _, Ci_mono (c_X4_at l D yc t1 t2 a A g r i hr hi H.C) ?_, c_X5_at l D yc t1 t2 b B h r i hr hi H.M⟩
  rintro r9 g9 ⟨rfl, rfl⟩
  by_cases c1 : r < 0 ∨ 5 < r
  · refine ⟨by simp only [if_pos c1], ?_⟩
    simp only [if_pos c1]
    exact H
  · simp only [if_neg c1]
    simp only [H.sz (r := r) (by omega) (by omega)]
    by_cases c2 : h 1 r < 0
    · refine ⟨by simp only [if_pos c2], ?_⟩
      simp only [if_pos c2]
      exact Rel_fn H (by decide) (by decide)
    · simp only [if_neg c2]
      by_cases c3 : i < 0 ∨ h 1 r ≤ i
      · refine ⟨by simp only [if_pos c3], ?_⟩
        simp only [if_pos c3]
        exact Rel_fn H (by decide) (by decide)
      · simp only [if_neg c3]
        rw [H.it (r := r) (by omega) (by omega) (j := i) (by omega) (by omega)]
        exact ⟨(by first | trivial | rfl), Rel_as H _⟩

theorem p_lay (l : Launch) (D : va_G) (yc : Nat → ClassId) (t1 t2 : Nat) (a b : Int → Nat) (A B : Nat → Prop) {g h : Mm} (H : Rel g h) (r i v : Int) (hr : R32 r) (hi : R32 i) (hv : R32 v) : PI l D yc t1 t2 a b A B yX4_lay wsX4_lay { frames := 3, cells := 0, slots := 0, locals := 65 } yX5_lay wsX5_lay { frames := 3, cells := 0, slots := 0, locals := 64 } [.ref (a (0)), .int (iI (r)), .int (iI (i)), .int (iI (v))] [.ref (b (0)), .int (iI (r)), .int (iI (i)), .int (iI (v))] g h := by
  refine ⟨_, _, Ci_mono (c_X4_lay l D yc t1 t2 a A g r i v hr hi H.C) ?_, c_X5_lay l D yc t1 t2 b B h r i v hr hi H.M⟩
  rintro r9 g9 ⟨rfl, rfl⟩
  by_cases c1 : r < 0 ∨ 5 < r
  · refine ⟨by simp only [if_pos c1], ?_⟩
    simp only [if_pos c1]
    exact H
  · simp only [if_neg c1]
    simp only [H.sz (r := r) (by omega) (by omega)]
    by_cases c2 : h 1 r < 0
    · refine ⟨by simp only [if_pos c2], ?_⟩
      simp only [if_pos c2]
      exact Rel_fn H (by decide) (by decide)
    · simp only [if_neg c2]
      by_cases c3 : i < 0 ∨ h 1 r ≤ i
      · refine ⟨by simp only [if_pos c3], ?_⟩
        simp only [if_pos c3]
        exact Rel_fn H (by decide) (by decide)
      · simp only [if_neg c3]
        rw [H.it (r := r) (by omega) (by omega) (j := i) (by omega) (by omega)]
        have K := Rel_as H (h 2 (40 * r + i))
        have hb := (H.1.2 r (by omega) (by omega)).2.1
        refine ⟨(by first | trivial | rfl), Rel_rw (r := r) K (by omega) (by omega) (fun q a b => mu_ne b) (fun q a b c => mu_ne b) (fun j a => ?_) (fun j a => mu_nj (by omega)) (fun j => ?_) ⟨?_, ?_, fun j => ?_, fun j a b => ?_⟩⟩
        · rw [mu_ne (by decide)]
        · by_cases hj : j = 40 * r + i
          · rw [hj, mu_at]; exact hv
          · rw [mu_nj hj]; exact K.1.1 j
        · rw [mu_ne (show 6 + r ≠ 16 + r by omega), mu_ne (show (1 : Int) ≠ 2 by decide)]; exact K.sz (by omega) (by omega)
        · rw [mu_ne (by decide), mu_ne (by decide)]; exact hb
        · by_cases hj : j = i
          · rw [hj, mu_at]; exact hv
          · rw [mu_nj hj]; exact (K.1.2 r (by omega) (by omega)).2.2.1 j
        · rw [mu_ne (by decide), mu_ne (by decide)] at b
          by_cases hj : j = i
          · rw [hj, mu_at, mu_at]
          · rw [mu_nj hj, mu_nj (by omega)]; exact K.it (by omega) (by omega) a (by rw [mu_ne (by decide)]; exact b)

theorem p_tear (l : Launch) (D : va_G) (yc : Nat → ClassId) (t1 t2 : Nat) (a b : Int → Nat) (A B : Nat → Prop) {g h : Mm} (H : Rel g h) (r : Int) (hr : R32 r) : PI l D yc t1 t2 a b A B yX4_tear wsX4_tear { frames := 2, cells := 0, slots := 0, locals := 42 } yX5_tear wsX5_tear { frames := 2, cells := 0, slots := 0, locals := 42 } [.ref (a (0)), .int (iI (r))] [.ref (b (0)), .int (iI (r))] g h := by
  refine ⟨_, _, Ci_mono (c_X4_tear l D yc t1 t2 a A g r hr H.C) ?_, c_X5_tear l D yc t1 t2 b B h r hr H.M⟩
  rintro r9 g9 ⟨rfl, rfl⟩
  by_cases c1 : r < 0 ∨ 5 < r
  · refine ⟨by simp only [if_pos c1], ?_⟩
    simp only [if_pos c1]
    exact H
  · simp only [if_neg c1]
    simp only [H.sz (r := r) (by omega) (by omega)]
    by_cases c2 : h 1 r < 0
    · refine ⟨by simp only [if_pos c2], ?_⟩
      simp only [if_pos c2]
      exact Rel_fn H (by decide) (by decide)
    · simp only [if_neg c2]
      refine ⟨(by first | trivial | rfl), Rel_rw (r := r) H (by omega) (by omega) (fun q a b => mu_ne a) (fun q a b c => mu_ne a) (fun j a => mu_nj a) (fun j a => by rw [mu_ne (by decide)]) (fun j => by rw [mu_ne (by decide)]; exact H.1.1 j) ⟨?_, ?_, fun j => ?_, fun j a b => ?_⟩⟩
      · rw [mu_at, mu_at]
      · rw [mu_at]; decide
      · rw [mu_ne (by omega)]; exact (H.1.2 r (by omega) (by omega)).2.2.1 j
      · rw [mu_at] at b; omega

theorem p_copy (l : Launch) (D : va_G) (yc : Nat → ClassId) (t1 t2 : Nat) (a b : Int → Nat) (A B : Nat → Prop) {g h : Mm} (H : Rel g h) (r i u j n : Int) (hr : R32 r) (hi : R32 i) (hu : R32 u) (hj : R32 j) (hn : R32 n) : PI l D yc t1 t2 a b A B yX4_copy wsX4_copy { frames := 2, cells := 0, slots := 0, locals := 42 } yX5_copy wsX5_copy { frames := 2, cells := 0, slots := 0, locals := 42 } [.ref (a (0)), .int (iI (r)), .int (iI (i)), .int (iI (u)), .int (iI (j)), .int (iI (n))] [.ref (b (0)), .int (iI (r)), .int (iI (i)), .int (iI (u)), .int (iI (j)), .int (iI (n))] g h := by
  refine ⟨_, _, Ci_mono (c_X4_copy l D yc t1 t2 a A g r i u j n hr hi hu hj hn H.C) ?_, c_X5_copy l D yc t1 t2 b B h r i u j n hr hi hu hj hn H.M⟩
  rintro r9 g9 ⟨rfl, rfl⟩
  by_cases c1 : (r < 0 ∨ 5 < r) ∨ (u < 0 ∨ 5 < u)
  · refine ⟨by simp only [if_pos c1], ?_⟩
    simp only [if_pos c1]
    exact H
  · simp only [if_neg c1]
    by_cases c2 : n < 0
    · refine ⟨by simp only [if_pos c2], ?_⟩
      simp only [if_pos c2]
      exact Rel_fn H (by decide) (by decide)
    · simp only [if_neg c2]
      simp only [H.sz (r := r) (by omega) (by omega), H.sz (r := u) (by omega) (by omega)]
      by_cases c3 : h 1 r < 0 ∨ h 1 u < 0
      · refine ⟨by simp only [if_pos c3], ?_⟩
        simp only [if_pos c3]
        exact Rel_fn H (by decide) (by decide)
      · simp only [if_neg c3]
        by_cases c4 : i < 0 ∨ j < 0 ∨ h 1 r < i + n ∨ h 1 u < j + n
        · refine ⟨by simp only [if_pos c4], ?_⟩
          simp only [if_pos c4]
          exact Rel_fn H (by decide) (by decide)
        · simp only [if_neg c4]
          have hb := (H.1.2 r (by omega) (by omega)).2.1
          have hb2 := (H.1.2 u (by omega) (by omega)).2.1
          refine ⟨(by first | trivial | rfl), Rel_rw (r := u) H (by omega) (by omega) (fun q a b => mcp_o b) (fun q a b c => by rw [cpf_o b, cpf_o c]) (fun x a => by rw [cpf_o (by decide), cpf_o (by decide)]) (fun x a => ?_) (fun x => ?_) ⟨?_, ?_, fun x => ?_, fun x a b => ?_⟩⟩
          · unfold cpf; rw [if_neg (by omega), if_neg (by omega)]
          · unfold cpf; split
            · exact H.1.1 _
            · rw [if_neg (by omega)]; exact H.1.1 x
          · rw [mcp_o (by omega), cpf_o (by decide), cpf_o (by decide)]; exact H.sz (by omega) (by omega)
          · rw [cpf_o (by decide), cpf_o (by decide)]; exact hb2
          · unfold mcp; split
            · exact (H.1.2 r (by omega) (by omega)).2.2.1 _
            · exact (H.1.2 u (by omega) (by omega)).2.2.1 x
          · rw [cpf_o (by decide), cpf_o (by decide)] at b
            by_cases hx : j ≤ x ∧ x < j + n
            · unfold mcp cpf; rw [if_pos ⟨rfl, hx.1, hx.2⟩, if_pos ⟨rfl, by omega, by omega⟩, H.it (r := r) (by omega) (by omega) (by omega) (by omega)]
              congr 1; omega
            · unfold mcp cpf; rw [if_neg (fun z => hx z.2), if_neg (by omega), if_neg (by omega)]; exact H.it (by omega) (by omega) a b

theorem p_mean (l : Launch) (D : va_G) (yc : Nat → ClassId) (t1 t2 : Nat) (a b : Int → Nat) (A B : Nat → Prop) {g h : Mm} (H : Rel g h) (r : Int) (hr : R32 r) : PI l D yc t1 t2 a b A B yX4_mean wsX4_mean { frames := 2, cells := 0, slots := 0, locals := 42 } yX5_mean wsX5_mean { frames := 2, cells := 0, slots := 0, locals := 42 } [.ref (a (0)), .int (iI (r))] [.ref (b (0)), .int (iI (r))] g h := by
  refine ⟨_, _, Ci_mono (c_X4_mean l D yc t1 t2 a A g r hr H.C) ?_, c_X5_mean l D yc t1 t2 b B h r hr H.M⟩
  rintro r9 g9 ⟨rfl, rfl⟩
  by_cases c1 : r < 0 ∨ 5 < r
  · refine ⟨by simp only [if_pos c1], ?_⟩
    simp only [if_pos c1]
    exact H
  · simp only [if_neg c1]
    simp only [H.sz (r := r) (by omega) (by omega)]
    by_cases c2 : h 1 r < 0
    · refine ⟨by simp only [if_pos c2], ?_⟩
      simp only [if_pos c2]
      exact Rel_fn H (by decide) (by decide)
    · simp only [if_neg c2]
      by_cases c3 : h 1 r = 0
      · refine ⟨by simp only [if_pos c3], ?_⟩
        simp only [if_pos c3]
        exact Rel_fn H (by decide) (by decide)
      · simp only [if_neg c3]
        have hb := (H.1.2 r (by omega) (by omega)).2.1
        have e : sI (fun j => g (16 + r) j) (h 1 r) = sI (fun x => h 2 (40 * r + x)) (h 1 r) := sI_cg (fun e a b => H.it (by omega) (by omega) a b) (by omega)
        rw [e]
        exact ⟨(by first | trivial | rfl), Rel_as H _⟩

theorem p_text (l : Launch) (D : va_G) (yc : Nat → ClassId) (t1 t2 : Nat) (a b : Int → Nat) (A B : Nat → Prop) {g h : Mm} (H : Rel g h) (t n : Int) (ht : R32 t) (hn : R32 n) : PI l D yc t1 t2 a b A B yX4_text wsX4_text { frames := 3, cells := 0, slots := 0, locals := 71 } yX5_text wsX5_text { frames := 2, cells := 0, slots := 0, locals := 42 } [.ref (a (0)), .int (iI (t)), .int (iI (n))] [.ref (b (0)), .int (iI (t)), .int (iI (n))] g h := by
  refine ⟨_, _, Ci_mono (c_X4_text l D yc t1 t2 a A g t n ht hn) ?_, c_X5_text l D yc t1 t2 b B h t n ht hn⟩
  rintro r9 g9 ⟨rfl, rfl⟩
  by_cases c1 : (t < 0 ∨ 3 < t) ∨ 60 < n
  · refine ⟨by simp only [if_pos c1], ?_⟩
    simp only [if_pos c1]
    exact H
  · simp only [if_neg c1]
    by_cases c2 : n < 0
    · refine ⟨by simp only [if_pos c2], ?_⟩
      simp only [if_pos c2]
      exact Rel_fn H (by decide) (by decide)
    · simp only [if_neg c2]
      refine ⟨(by first | trivial | rfl), Rel_tx (r := t) H (by omega) (by omega) (fun q a b => ?_) (fun q a b => ?_) (fun j a => ?_) (fun j a => ?_) (fun j => ?_) ⟨?_, ?_, fun j => ?_, fun j a b => ?_⟩⟩
      · funext j; unfold fil; rw [if_neg (fun z => b z.1), mu_ne a]
      · rw [fls_o b, mu_ne a]
      · rw [fls_o (by decide), mu_nj a]
      · unfold fls; rw [if_neg (by omega), mu_ne (by decide)]
      · unfold fls; split
        · decide
        · rw [mu_ne (by decide)]; exact H.2.1.1 j
      · unfold fil; rw [if_neg (by omega), mu_at, fls_o (by decide), mu_at]
      · rw [fls_o (by decide), mu_at]; omega
      · unfold fil; split
        · decide
        · rw [mu_ne (by omega)]; exact (H.2.1.2 t (by omega) (by omega)).2.2.1 j
      · rw [fls_o (by decide), mu_at] at b
        unfold fil fls; rw [if_pos ⟨rfl, a, b⟩, if_pos ⟨rfl, by omega, by omega⟩]

theorem p_put (l : Launch) (D : va_G) (yc : Nat → ClassId) (t1 t2 : Nat) (a b : Int → Nat) (A B : Nat → Prop) {g h : Mm} (H : Rel g h) (t i v : Int) (ht : R32 t) (hi : R32 i) (hv : R32 v) : PI l D yc t1 t2 a b A B yX4_put wsX4_put { frames := 2, cells := 0, slots := 0, locals := 42 } yX5_put wsX5_put { frames := 2, cells := 0, slots := 0, locals := 42 } [.ref (a (0)), .int (iI (t)), .int (iI (i)), .int (iI (v))] [.ref (b (0)), .int (iI (t)), .int (iI (i)), .int (iI (v))] g h := by
  refine ⟨_, _, Ci_mono (c_X4_put l D yc t1 t2 a A g t i v ht hi H.C) ?_, c_X5_put l D yc t1 t2 b B h t i v ht hi H.M⟩
  rintro r9 g9 ⟨rfl, rfl⟩
  by_cases c1 : t < 0 ∨ 3 < t
  · refine ⟨by simp only [if_pos c1], ?_⟩
    simp only [if_pos c1]
    exact H
  · simp only [if_neg c1]
    simp only [H.ln (t := t) (by omega) (by omega)]
    by_cases c2 : h 4 t < 0
    · refine ⟨by simp only [if_pos c2], ?_⟩
      simp only [if_pos c2]
      exact Rel_fn H (by decide) (by decide)
    · simp only [if_neg c2]
      by_cases c3 : i < 0 ∨ h 4 t ≤ i
      · refine ⟨by simp only [if_pos c3], ?_⟩
        simp only [if_pos c3]
        exact Rel_fn H (by decide) (by decide)
      · simp only [if_neg c3]
        rw [H.by (t := t) (by omega) (by omega) (j := i) (by omega) (by omega)]
        have hb := (H.2.1.2 t (by omega) (by omega)).2.1
        have h8 := i8_r v
        refine ⟨(by first | trivial | rfl), Rel_tx (r := t) H (by omega) (by omega) (fun q a b => mu_ne b) (fun q a b => mu_ne b) (fun j a => ?_) (fun j a => mu_nj (by omega)) (fun j => ?_) ⟨?_, ?_, fun j => ?_, fun j a b => ?_⟩⟩
        · rw [mu_ne (by decide)]
        · by_cases hj : j = 60 * t + i
          · rw [hj, mu_at]; exact h8
          · rw [mu_nj hj]; exact H.2.1.1 j
        · rw [mu_ne (by omega), mu_ne (by decide)]; exact H.ln (by omega) (by omega)
        · rw [mu_ne (by decide)]; exact hb
        · by_cases hj : j = i
          · rw [hj, mu_at]; exact h8
          · rw [mu_nj hj]; exact (H.2.1.2 t (by omega) (by omega)).2.2.1 j
        · rw [mu_ne (by decide)] at b
          by_cases hj : j = i
          · rw [hj, mu_at, mu_at]
          · rw [mu_nj hj, mu_nj (by omega)]; exact H.by (by omega) (by omega) a b
