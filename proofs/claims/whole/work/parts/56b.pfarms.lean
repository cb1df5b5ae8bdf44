/-! Pairs: farms, turns, partings, calves, counts. -/
theorem p_where (l : Launch) (D : va_G) (yc : Nat → ClassId) (t1 t2 : Nat) (a b : Int → Nat) (A B : Nat → Prop) {g h : Mm} (H : Rel g h) (d : Int) (hd : R32 d) : PI l D yc t1 t2 a b A B yX4_where wsX4_where { frames := 2, cells := 0, slots := 0, locals := 42 } yX5_where wsX5_where { frames := 2, cells := 0, slots := 0, locals := 42 } [.ref (a (0)), .int (iI (d))] [.ref (b (0)), .int (iI (d))] g h := by
  refine ⟨_, _, Ci_mono (c_X4_where l D yc t1 t2 a A g d (h 6) hd H.F H.I) ?_, c_X5_where l D yc t1 t2 b B h d hd H.I⟩
  rintro r9 g9 ⟨rfl, rfl⟩
  exact ⟨rfl, H⟩

theorem p_milk (l : Launch) (D : va_G) (yc : Nat → ClassId) (t1 t2 : Nat) (a b : Int → Nat) (A B : Nat → Prop) {g h : Mm} (H : Rel g h) (q b9 d : Int) (hq : R32 q) (hb9 : R32 b9) (hd : R32 d) : PI l D yc t1 t2 a b A B yX4_milk wsX4_milk { frames := 2, cells := 0, slots := 0, locals := 46 } yX5_milk wsX5_milk { frames := 2, cells := 0, slots := 0, locals := 46 } [.ref (a (0)), .int (iI (q)), .int (iI (b9)), .int (iI (d))] [.ref (b (0)), .int (iI (q)), .int (iI (b9)), .int (iI (d))] g h := by
  refine ⟨_, _, Ci_mono (c_X4_milk l D yc t1 t2 a A g q b9 d (h 6) hq hb9 hd H.F H.I) ?_, c_X5_milk l D yc t1 t2 b B h q b9 d hq hb9 hd H.I⟩
  rintro r9 g9 ⟨rfl, rfl⟩
  exact ⟨rfl, H⟩

theorem p_walks (l : Launch) (D : va_G) (yc : Nat → ClassId) (t1 t2 : Nat) (a b : Int → Nat) (A B : Nat → Prop) {g h : Mm} (H : Rel g h) (d : Int) (hd : R32 d) : PI l D yc t1 t2 a b A B yX4_walks wsX4_walks { frames := 2, cells := 0, slots := 0, locals := 42 } yX5_walks wsX5_walks { frames := 2, cells := 0, slots := 0, locals := 42 } [.ref (a (0)), .int (iI (d))] [.ref (b (0)), .int (iI (d))] g h := by
  refine ⟨_, _, Ci_mono (c_X4_walks l D yc t1 t2 a A g d (h 6) hd H.F H.I) ?_, c_X5_walks l D yc t1 t2 b B h d hd H.I⟩
  rintro r9 g9 ⟨rfl, rfl⟩
  exact ⟨rfl, H⟩

theorem p_fair (l : Launch) (D : va_G) (yc : Nat → ClassId) (t1 t2 : Nat) (a b : Int → Nat) (A B : Nat → Prop) {g h : Mm} (H : Rel g h)  : PI l D yc t1 t2 a b A B yX4_fair wsX4_fair { frames := 3, cells := 0, slots := 0, locals := 68 } yX5_fair wsX5_fair { frames := 4, cells := 0, slots := 0, locals := 91 } [.ref (a (0))] [.ref (b (0))] g h := by
  refine ⟨_, _, Ci_mono (c_X4_fair l D yc t1 t2 a A g (h 6)  H.F H.I) ?_, c_X5_fair l D yc t1 t2 b B h H.I⟩
  rintro r9 g9 ⟨rfl, rfl⟩
  exact ⟨rfl, H⟩

theorem p_round (l : Launch) (D : va_G) (yc : Nat → ClassId) (t1 t2 : Nat) (a b : Int → Nat) (A B : Nat → Prop) {g h : Mm} (H : Rel g h)  : PI l D yc t1 t2 a b A B yX4_round wsX4_round { frames := 0, cells := 0, slots := 0, locals := 0 } yX5_round wsX5_round { frames := 1, cells := 0, slots := 0, locals := 20 } [.ref (a (0))] [.ref (b (0))] g h := by
  refine ⟨_, _, Ci_mono (c_X4_round l D yc t1 t2 a A g (h 6)  H.F H.I H.z) ?_, c_X5_round l D yc t1 t2 b B h H.I⟩
  rintro r9 g9 ⟨rfl, rfl⟩
  exact ⟨rfl, H⟩

theorem p_out (l : Launch) (D : va_G) (yc : Nat → ClassId) (t1 t2 : Nat) (a b : Int → Nat) (A B : Nat → Prop) {g h : Mm} (H : Rel g h) (v : Int) (hv : R32 v) : PI l D yc t1 t2 a b A B yX4_out wsX4_out { frames := 2, cells := 0, slots := 0, locals := 42 } yX5_out wsX5_out { frames := 1, cells := 0, slots := 0, locals := 22 } [.ref (a (0)), .int (iI (v))] [.ref (b (0)), .int (iI (v))] g h := by
  refine ⟨_, _, Ci_mono (c_X4_out l D yc t1 t2 a A g v (h 6) hv H.F H.I) ?_, c_X5_out l D yc t1 t2 b B h v hv H.I⟩
  rintro r9 g9 ⟨rfl, rfl⟩
  exact ⟨rfl, Rel_if (fun _ => H) (fun _ => Rel_if (fun _ => H) (fun _ => Rel_if (fun _ => H) (fun _ => Rel_as H _)))⟩

theorem p_ways (l : Launch) (D : va_G) (yc : Nat → ClassId) (t1 t2 : Nat) (a b : Int → Nat) (A B : Nat → Prop) {g h : Mm} (H : Rel g h)  : PI l D yc t1 t2 a b A B yX4_ways wsX4_ways { frames := 3, cells := 0, slots := 0, locals := 68 } yX5_ways wsX5_ways { frames := 4, cells := 0, slots := 0, locals := 91 } [.ref (a (0))] [.ref (b (0))] g h := by
  refine ⟨_, _, Ci_mono (c_X4_ways l D yc t1 t2 a A g (h 6)  H.F H.I) ?_, c_X5_ways l D yc t1 t2 b B h H.I⟩
  rintro r9 g9 ⟨rfl, rfl⟩
  exact ⟨rfl, Rel_if (fun _ => H) (fun _ => Rel_as H _)⟩

theorem p_part (l : Launch) (D : va_G) (yc : Nat → ClassId) (t1 t2 : Nat) (a b : Int → Nat) (A B : Nat → Prop) {g h : Mm} (H : Rel g h)  : PI l D yc t1 t2 a b A B yX4_part wsX4_part { frames := 2, cells := 0, slots := 0, locals := 45 } yX5_part wsX5_part { frames := 4, cells := 0, slots := 0, locals := 92 } [.ref (a (0))] [.ref (b (0))] g h := by
  refine ⟨_, _, Ci_mono (c_X4_part l D yc t1 t2 a A g (h 6)  H.F H.I) ?_, c_X5_part l D yc t1 t2 b B h H.I⟩
  rintro r9 g9 ⟨rfl, rfl⟩
  exact ⟨rfl, Rel_if (fun _ => H) (fun _ => Rel_as H _)⟩

theorem p_sum (l : Launch) (D : va_G) (yc : Nat → ClassId) (t1 t2 : Nat) (a b : Int → Nat) (A B : Nat → Prop) {g h : Mm} (H : Rel g h)  : PI l D yc t1 t2 a b A B yX4_sum wsX4_sum { frames := 3, cells := 0, slots := 0, locals := 68 } yX5_sum wsX5_sum { frames := 4, cells := 0, slots := 0, locals := 91 } [.ref (a (0))] [.ref (b (0))] g h := by
  refine ⟨_, _, Ci_mono (c_X4_sum l D yc t1 t2 a A g (h 6)  H.F H.I) ?_, c_X5_sum l D yc t1 t2 b B h H.I⟩
  rintro r9 g9 ⟨rfl, rfl⟩
  exact ⟨rfl, Rel_if (fun _ => H) (fun _ => Rel_if (fun _ => H) (fun _ => Rel_as H _))⟩

theorem p_odds (l : Launch) (D : va_G) (yc : Nat → ClassId) (t1 t2 : Nat) (a b : Int → Nat) (A B : Nat → Prop) {g h : Mm} (H : Rel g h) (q n x : Int) (hq : R32 q) (hn : R32 n) (hx : R32 x) : PI l D yc t1 t2 a b A B yX4_odds wsX4_odds { frames := 2, cells := 0, slots := 0, locals := 56 } yX5_odds wsX5_odds { frames := 1, cells := 0, slots := 0, locals := 30 } [.ref (a (0)), .int (iI (q)), .int (iI (n)), .int (iI (x))] [.ref (b (0)), .int (iI (q)), .int (iI (n)), .int (iI (x))] g h := by
  refine ⟨_, _, Ci_mono (c_X4_odds l D yc t1 t2 a A g q n x (h 6) hq hn hx H.F H.I) ?_, c_X5_odds l D yc t1 t2 b B h q n x hq hn hx H.I⟩
  rintro r9 g9 ⟨rfl, rfl⟩
  exact ⟨rfl, Rel_if (fun _ => H) (fun _ => Rel_if (fun _ => H) (fun _ => Rel_pt H _ _))⟩

theorem p_bill (l : Launch) (D : va_G) (yc : Nat → ClassId) (t1 t2 : Nat) (a b : Int → Nat) (A B : Nat → Prop) {g h : Mm} (H : Rel g h) (x d : Int) (hx : R32 x) (hd : R32 d) : PI l D yc t1 t2 a b A B yX4_bill wsX4_bill { frames := 2, cells := 0, slots := 0, locals := 56 } yX5_bill wsX5_bill { frames := 2, cells := 0, slots := 0, locals := 46 } [.ref (a (0)), .int (iI (x)), .int (iI (d))] [.ref (b (0)), .int (iI (x)), .int (iI (d))] g h := by
  refine ⟨_, _, Ci_mono (c_X4_bill l D yc t1 t2 a A g x d (h 6) hx hd H.F H.I) ?_, c_X5_bill l D yc t1 t2 b B h x d hx hd H.I⟩
  rintro r9 g9 ⟨rfl, rfl⟩
  exact ⟨rfl, Rel_if (fun _ => H) (fun _ => Rel_if (fun _ => H) (fun _ => Rel_if (fun _ => Rel_pt H _ _) (fun _ => Rel_pt H _ _)))⟩

theorem p_heirs (l : Launch) (D : va_G) (yc : Nat → ClassId) (t1 t2 : Nat) (a b : Int → Nat) (A B : Nat → Prop) {g h : Mm} (H : Rel g h)  : PI l D yc t1 t2 a b A B yX4_heirs wsX4_heirs { frames := 2, cells := 0, slots := 0, locals := 51 } yX5_heirs wsX5_heirs { frames := 2, cells := 0, slots := 0, locals := 44 } [.ref (a (0))] [.ref (b (0))] g h := by
  refine ⟨_, _, Ci_mono (c_X4_heirs l D yc t1 t2 a A g (h 6)  H.F H.I) ?_, c_X5_heirs l D yc t1 t2 b B h H.I⟩
  rintro r9 g9 ⟨rfl, rfl⟩
  refine ⟨rfl, Rel_if (fun _ => H) (fun _ => ?_)⟩
  have K := Rel_as H (ab (hgB (h 6)) (p3 (h 6 0) - 1).toNat)
  exact Rel_sc K (fun q hq => rfl) (fun q hq => by rw [mu_ne (by omega), mu_ne (by omega), m3_o (by omega)]) (RSc_cg K.2.2.2.2 rfl rfl (by funext j; unfold mu; rw [m3_o (by decide)]) (by rw [mu_ne (by decide), mu_ne (by decide), m3_o (by decide)]))

theorem p_value (l : Launch) (D : va_G) (yc : Nat → ClassId) (t1 t2 : Nat) (a b : Int → Nat) (A B : Nat → Prop) {g h : Mm} (H : Rel g h) (b9 q : Int) (hb9 : R32 b9) (hq : R32 q) : PI l D yc t1 t2 a b A B yX4_value wsX4_value { frames := 2, cells := 0, slots := 0, locals := 45 } yX5_value wsX5_value { frames := 3, cells := 0, slots := 0, locals := 69 } [.ref (a (0)), .int (iI (b9)), .int (iI (q))] [.ref (b (0)), .int (iI (b9)), .int (iI (q))] g h := by
  refine ⟨_, _, Ci_mono (c_X4_value l D yc t1 t2 a A g b9 q (h 6) hb9 hq H.F H.I) ?_, c_X5_value l D yc t1 t2 b B h b9 q hb9 hq H.I⟩
  rintro r9 g9 ⟨rfl, rfl⟩
  refine ⟨?_, H⟩
  by_cases c : (b9 < 0 ∨ 1 < b9) ∨ (q < 0 ∨ 1 < q)
  · simp only [if_pos c]
  · simp only [if_neg c]
    rw [VB_so H.I (by omega) (by omega)]

theorem p_calf (l : Launch) (D : va_G) (yc : Nat → ClassId) (t1 t2 : Nat) (a b : Int → Nat) (A B : Nat → Prop) {g h : Mm} (H : Rel g h) (d q : Int) (hd : R32 d) (hq : R32 q) : PI l D yc t1 t2 a b A B yX4_calf wsX4_calf { frames := 3, cells := 0, slots := 0, locals := 67 } yX5_calf wsX5_calf { frames := 3, cells := 0, slots := 0, locals := 69 } [.ref (a (0)), .int (iI (d)), .int (iI (q))] [.ref (b (0)), .int (iI (d)), .int (iI (q))] g h := by
  refine ⟨_, _, Ci_mono (c_X4_calf l D yc t1 t2 a A g d q (h 6) hd hq H.F H.I) ?_, c_X5_calf l D yc t1 t2 b B h d q hd hq H.I⟩
  rintro r9 g9 ⟨rfl, rfl⟩
  have hT : ¬ h 6 0 = 0 → 0 < h 6 1 := (fun z => by have := H.I.n; omega)
  refine ⟨?_, H⟩
  by_cases c : (d < 0 ∨ 999 < d) ∨ (q < 0 ∨ 3 < q)
  · simp only [if_pos c]
  · simp only [if_neg c]
    by_cases z : h 6 0 = 0
    · simp only [if_pos z]
    · simp only [if_neg z]
      rw [cb_cf H.I (hT z) (by omega) (by omega) (by omega)]

theorem p_quarrel (l : Launch) (D : va_G) (yc : Nat → ClassId) (t1 t2 : Nat) (a b : Int → Nat) (A B : Nat → Prop) {g h : Mm} (H : Rel g h) (d x y : Int) (hd : R32 d) (hx : R32 x) (hy : R32 y) : PI l D yc t1 t2 a b A B yX4_quarrel wsX4_quarrel { frames := 3, cells := 0, slots := 0, locals := 67 } yX5_quarrel wsX5_quarrel { frames := 3, cells := 0, slots := 0, locals := 69 } [.ref (a (0)), .int (iI (d)), .int (iI (x)), .int (iI (y))] [.ref (b (0)), .int (iI (d)), .int (iI (x)), .int (iI (y))] g h := by
  refine ⟨_, _, Ci_mono (c_X4_quarrel l D yc t1 t2 a A g d x y (h 6) hd hx hy H.F H.I) ?_, c_X5_quarrel l D yc t1 t2 b B h d x y hd hx hy H.I⟩
  rintro r9 g9 ⟨rfl, rfl⟩
  have hT : ¬ h 6 0 = 0 → 0 < h 6 1 := (fun z => by have := H.I.n; omega)
  refine ⟨?_, H⟩
  by_cases c : (d < 0 ∨ 999 < d) ∨ (x < 0 ∨ 3 < x) ∨ (y < 0 ∨ 3 < y) ∨ x = y
  · simp only [if_pos c]
  · simp only [if_neg c]
    by_cases z : h 6 0 = 0
    · simp only [if_pos z]
    · simp only [if_neg z]
      rw [qc_qr H.I (hT z) (by omega) (by omega) (by omega) (by omega) (by omega)]

theorem p_beast (l : Launch) (D : va_G) (yc : Nat → ClassId) (t1 t2 : Nat) (a b : Int → Nat) (A B : Nat → Prop) {g h : Mm} (H : Rel g h) (i k : Int) (hi : R32 i) (hk : R32 k) : PI l D yc t1 t2 a b A B yX4_beast wsX4_beast { frames := 1, cells := 0, slots := 0, locals := 21 } yX5_beast wsX5_beast { frames := 3, cells := 0, slots := 0, locals := 66 } [.ref (a (0)), .int (iI (i)), .int (iI (k))] [.ref (b (0)), .int (iI (i)), .int (iI (k))] g h := by
  refine ⟨_, _, Ci_mono (c_X4_beast l D yc t1 t2 a A g i k (h 6) hi hk H.F H.I) ?_, c_X5_beast l D yc t1 t2 b B h i k hi hk H.I⟩
  rintro r9 g9 ⟨rfl, rfl⟩
  by_cases c : (i < 0 ∨ h 6 0 ≤ i) ∨ (k < 0 ∨ 4 < k)
  · refine ⟨by simp only [if_pos c], ?_⟩
    simp only [if_pos c]; exact H
  · refine ⟨by simp only [if_neg c], ?_⟩
    simp only [if_neg c]
    have e := tl_bh (x := i) (y := k) H.F (by omega) (by omega) (by omega) (by omega)
    rw [show (5 * i + k) / 5 = i by omega, show (5 * i + k) % 5 = k by omega] at e
    rw [e]; exact Rel_as H _

theorem p_mark (l : Launch) (D : va_G) (yc : Nat → ClassId) (t1 t2 : Nat) (a b : Int → Nat) (A B : Nat → Prop) {g h : Mm} (H : Rel g h) (i k : Int) (hi : R32 i) (hk : R32 k) : PI l D yc t1 t2 a b A B yX4_mark wsX4_mark { frames := 2, cells := 0, slots := 0, locals := 46 } yX5_mark wsX5_mark { frames := 2, cells := 0, slots := 0, locals := 44 } [.ref (a (0)), .int (iI (i)), .int (iI (k))] [.ref (b (0)), .int (iI (i)), .int (iI (k))] g h := by
  refine ⟨_, _, Ci_mono (c_X4_mark l D yc t1 t2 a A g i k (h 6) hi hk H.F H.I) ?_, c_X5_mark l D yc t1 t2 b B h i k hi hk H.I⟩
  rintro r9 g9 ⟨rfl, rfl⟩
  have hn := H.I.n
  by_cases c : (i < 0 ∨ h 6 0 ≤ i) ∨ (k < 1 ∨ 5 < k)
  · refine ⟨by simp only [if_pos c], ?_⟩
    simp only [if_pos c]; exact H
  · simp only [if_neg c]
    by_cases c2 : k = h 6 (20 + 3 * i) ∨ (h 6 (20 + 3 * i) = 4 ∧ k = 2) ∨ (h 6 (20 + 3 * i) = 5 ∧ k = 3)
    · have c3 : k = h 6 (20 + 3 * i) ∨ k = 0 ∨ (h 6 (20 + 3 * i) = 4 ∧ k = 2) ∨ (h 6 (20 + 3 * i) = 5 ∧ k = 3) := (by omega)
      have n3 : ¬ ¬ (k = h 6 (20 + 3 * i) ∨ k = 0 ∨ (h 6 (20 + 3 * i) = 4 ∧ k = 2) ∨ (h 6 (20 + 3 * i) = 5 ∧ k = 3)) := fun z => z c3
      have n2 : ¬ ¬ (k = h 6 (20 + 3 * i) ∨ (h 6 (20 + 3 * i) = 4 ∧ k = 2) ∨ (h 6 (20 + 3 * i) = 5 ∧ k = 3)) := fun z => z c2
      rw [if_neg n3, if_neg n3, if_neg n2, if_neg n2]
      refine ⟨?_, H⟩
      by_cases k4 : k = 4
      · simp only [if_neg (show ¬ k = 1 by omega), if_neg (show ¬ k = 2 by omega), if_neg (show ¬ k = 3 by omega), if_pos k4]
        rw [sI_but (i := i) (by omega) (by omega) (by omega), if_pos ⟨rfl, by omega⟩]
        congr 1
        rw [Int.add_sub_cancel]
        refine sI_cg (fun x a b => ?_) (by omega)
        by_cases hx : x = i
        · rw [if_pos hx, if_neg (fun z => z.1 hx)]
        · rw [if_neg hx]
          by_cases hy : h 6 (20 + 3 * x + 2) = h 6 (20 + 3 * i + 2) ∧ (h 6 (20 + 3 * x) = 2 ∨ h 6 (20 + 3 * x) = 4)
          · rw [if_pos hy, if_pos ⟨hx, hy.2, hy.1⟩]
          · rw [if_neg hy, if_neg (fun z => hy ⟨z.2.2, z.2.1⟩)]
      · simp only [if_neg k4]
    · have c3 : ¬ (k = h 6 (20 + 3 * i) ∨ k = 0 ∨ (h 6 (20 + 3 * i) = 4 ∧ k = 2) ∨ (h 6 (20 + 3 * i) = 5 ∧ k = 3)) := (by omega)
      rw [if_pos c3, if_pos c3, if_pos c2, if_pos c2]
      exact ⟨rfl, Rel_fn H (by decide) (by decide)⟩

theorem p_turn (l : Launch) (D : va_G) (yc : Nat → ClassId) (t1 t2 : Nat) (a b : Int → Nat) (A B : Nat → Prop) {g h : Mm} (H : Rel g h) (k q : Int) (hk : R32 k) (hq : R32 q) : PI l D yc t1 t2 a b A B yX4_turn wsX4_turn { frames := 2, cells := 0, slots := 0, locals := 42 } yX5_turn wsX5_turn { frames := 1, cells := 0, slots := 0, locals := 22 } [.ref (a (0)), .int (iI (k)), .int (iI (q))] [.ref (b (0)), .int (iI (k)), .int (iI (q))] g h := by
  refine ⟨_, _, Ci_mono (c_X4_turn l D yc t1 t2 a A g k q (h 6) hk hq H.F H.I) ?_, c_X5_turn l D yc t1 t2 b B h k q hk hq H.I⟩
  rintro r9 g9 ⟨rfl, rfl⟩
  have hn := H.I.n
  by_cases c : (k < 0 ∨ h 6 1 ≤ k) ∨ (q < 0 ∨ 1 < q)
  · refine ⟨by simp only [if_pos c], ?_⟩
    simp only [if_pos c]; exact H
  · simp only [if_neg c]
    by_cases c2 : 0 < h 6 4
    · refine ⟨by simp only [if_pos c2], ?_⟩
      simp only [if_pos c2]; exact H
    · refine ⟨by simp only [if_neg c2], ?_⟩
      simp only [if_neg c2]
      have v : ∀ j, j ≠ 6 + k → fu (h 6) (6 + k) q j = h 6 j := fun j hj => fu_ne hj
      have I := H.I
      refine Rel_fm H (fun x o => mu_ne o.2.1) ⟨?_, fun j a b => ?_, fun j a b => ?_, fun i a b => ?_, fun j a b => ?_⟩ ⟨?_, fun j a b => ?_, fun j a b => ?_, fun i a b => ?_, fun j a b => ?_, ?_, ?_, ?_, ?_⟩ ?_
      · rw [mu_ne (by decide), v 0 (by omega), v 1 (by omega), v 2 (by omega), v 3 (by omega), v 4 (by omega), v 5 (by omega)]; exact H.F.1
      · rw [v 1 (by omega)] at b
        by_cases hj : j = k
        · rw [hj, mu_at, fu_at]
        · rw [mu_nj hj, v _ (by omega)]; exact H.F.tn a b
      · rw [v 2 (by omega)] at b; rw [mu_ne (by decide), v _ (by omega)]; exact H.F.mk a b
      · rw [v 0 (by omega)] at b; rw [mu_ne (by omega), v _ (by omega), v _ (by omega), v _ (by omega)]; exact H.F.bs a b
      · rw [v 4 (by omega)] at b; omega
      · rw [v 0 (by omega), v 1 (by omega), v 2 (by omega), v 4 (by omega)]; exact I.1
      · rw [v 1 (by omega)] at b
        by_cases hj : j = k
        · rw [hj, fu_at]; omega
        · rw [v _ (by omega)]; exact I.t a b
      · rw [v 2 (by omega)] at b; rw [v _ (by omega)]; exact I.m a b
      · rw [v 0 (by omega)] at b; rw [v _ (by omega), v _ (by omega), v _ (by omega)]; exact I.b a b
      · rw [v 4 (by omega)] at b; omega
      · rw [v 3 (by omega), v 4 (by omega), dSum_cg (F' := h 6) (fun x _ _ => v _ (by omega))]; exact I.2.2.2.2.2.1
      · rw [v 5 (by omega), v 4 (by omega), dSum_cg (F' := h 6) (fun x _ _ => v _ (by omega))]; exact I.2.2.2.2.2.2.1
      · rw [v 3 (by omega)]; exact I.2.2.2.2.2.2.2.1
      · rw [v 0 (by omega), v 4 (by omega)]; exact I.z
      · rw [v 0 (by omega), v 1 (by omega)]; exact H.z

theorem p_day (l : Launch) (D : va_G) (yc : Nat → ClassId) (t1 t2 : Nat) (a b : Int → Nat) (A B : Nat → Prop) {g h : Mm} (H : Rel g h)  : PI l D yc t1 t2 a b A B yX4_day wsX4_day { frames := 2, cells := 0, slots := 0, locals := 42 } yX5_day wsX5_day { frames := 3, cells := 0, slots := 0, locals := 64 } [.ref (a (0))] [.ref (b (0))] g h := by
  refine ⟨_, _, Ci_mono (c_X4_day l D yc t1 t2 a A g (h 6)  H.F H.I H.I.td) ?_, c_X5_day l D yc t1 t2 b B h H.I H.I.td⟩
  rintro r9 g9 ⟨rfl, rfl⟩
  have hn := H.I.n
  have ht := H.I.td
  by_cases c : h 6 0 = 0 ∨ 999 ≤ h 6 3
  · have c9 : h 6 0 = 0 ∨ h 6 3 = 999 := (by omega)
    rw [if_pos c, if_pos c9, if_pos c, if_pos c9]; exact ⟨rfl, H⟩
  · have c9 : ¬ (h 6 0 = 0 ∨ h 6 3 = 999) := (by omega)
    rw [if_neg c, if_neg c9, if_neg c, if_neg c9]
    by_cases c2 : 60 ≤ h 6 4
    · rw [if_pos c2, if_pos (show h 6 4 = 60 by omega), if_pos c2, if_pos (show h 6 4 = 60 by omega)]; exact ⟨rfl, H⟩
    · rw [if_neg c2, if_neg (show ¬ h 6 4 = 60 by omega), if_neg c2, if_neg (show ¬ h 6 4 = 60 by omega)]
      have v := doF_v H.I (w := 0) (Or.inl rfl) (by omega)
      refine ⟨by rw [v.2.2.2.1]; rfl, Rel_fm H (fun q o => wd_fr (Or.inl rfl) o) (FR_day H.F H.I (by omega)) (doF_I H.I (Or.inl rfl) (by omega) (by omega) (fun a b => by omega) (fun _ => by omega)) (by rw [v.1, v.2.1]; exact H.z)⟩

theorem p_drive (l : Launch) (D : va_G) (yc : Nat → ClassId) (t1 t2 : Nat) (a b : Int → Nat) (A B : Nat → Prop) {g h : Mm} (H : Rel g h) (i : Int) (hi : R32 i) : PI l D yc t1 t2 a b A B yX4_drive wsX4_drive { frames := 2, cells := 0, slots := 0, locals := 43 } yX5_drive wsX5_drive { frames := 3, cells := 0, slots := 0, locals := 64 } [.ref (a (0)), .int (iI (i))] [.ref (b (0)), .int (iI (i))] g h := by
  refine ⟨_, _, Ci_mono (c_X4_drive l D yc t1 t2 a A g i (h 6) hi H.F H.I) ?_, c_X5_drive l D yc t1 t2 b B h i hi H.I⟩
  rintro r9 g9 ⟨rfl, rfl⟩
  have hn := H.I.n
  by_cases c : i < 0 ∨ h 6 0 ≤ i
  · refine ⟨by simp only [if_pos c], ?_⟩
    simp only [if_pos c]; exact H
  · simp only [if_neg c]
    by_cases c2 : 60 ≤ h 6 4
    · rw [if_pos c2, if_pos (show h 6 4 = 60 by omega), if_pos c2, if_pos (show h 6 4 = 60 by omega)]; exact ⟨rfl, H⟩
    · rw [if_neg c2, if_neg (show ¬ h 6 4 = 60 by omega), if_neg c2, if_neg (show ¬ h 6 4 = 60 by omega)]
      have hw : dOk (1 + i) := Or.inr (Or.inl ⟨by omega, by omega⟩)
      have v := doF_v H.I hw (by omega)
      refine ⟨by rw [(v.2.2.2.2.2.2.2.1 i (by omega) (by omega)).2.2, if_pos rfl], Rel_fm H (fun q o => wd_fr (Or.inr ⟨by omega, by omega⟩) o) (FR_drv H.F H.I (by omega) (by omega) (by omega)) (doF_I H.I hw (by omega) (by omega) (fun a b => by omega) (fun _ => by omega)) (by rw [v.1, v.2.1]; exact H.z)⟩

theorem p_pay (l : Launch) (D : va_G) (yc : Nat → ClassId) (t1 t2 : Nat) (a b : Int → Nat) (A B : Nat → Prop) {g h : Mm} (H : Rel g h) (q x : Int) (hq : R32 q) (hx : R32 x) : PI l D yc t1 t2 a b A B yX4_pay wsX4_pay { frames := 2, cells := 0, slots := 0, locals := 45 } yX5_pay wsX5_pay { frames := 3, cells := 0, slots := 0, locals := 64 } [.ref (a (0)), .int (iI (q)), .int (iI (x))] [.ref (b (0)), .int (iI (q)), .int (iI (x))] g h := by
  refine ⟨_, _, Ci_mono (c_X4_pay l D yc t1 t2 a A g q x (h 6) hq hx H.F H.I) ?_, c_X5_pay l D yc t1 t2 b B h q x hq hx H.I⟩
  rintro r9 g9 ⟨rfl, rfl⟩
  have hn := H.I.n
  by_cases c : (q < 0 ∨ 1 < q) ∨ (x < 1 ∨ 99 < x)
  · refine ⟨by simp only [if_pos c], ?_⟩
    simp only [if_pos c]; exact H
  · simp only [if_neg c]
    by_cases z : h 6 0 = 0
    · refine ⟨by simp only [if_pos z], ?_⟩
      simp only [if_pos z]; exact H
    · simp only [if_neg z]
      by_cases c2 : 60 ≤ h 6 4
      · rw [if_pos c2, if_pos (show h 6 4 = 60 by omega), if_pos c2, if_pos (show h 6 4 = 60 by omega)]; exact ⟨rfl, H⟩
      · rw [if_neg c2, if_neg (show ¬ h 6 4 = 60 by omega), if_neg c2, if_neg (show ¬ h 6 4 = 60 by omega)]
        have hw : dOk (100 + 100 * q + x) := Or.inr (Or.inr (by omega))
        have v := doF_v H.I hw (by omega)
        have d1 : dNet (100 + 100 * q + x) = if q = 0 then -x else x := by
          unfold dNet; rw [if_neg (show ¬ 100 + 100 * q + x < 100 by omega)]
          by_cases h9 : q = 0
          · rw [if_pos h9, if_pos (by omega)]; omega
          · rw [if_neg h9, if_neg (by omega)]; omega
        refine ⟨by rw [v.2.2.2.2.2.1, d1], Rel_fm H (fun q o => wd_fr (Or.inl rfl) o) (FR_pay H.F H.I (by omega) (by omega) (by omega) (by omega) (by omega)) (doF_I H.I hw (by omega) (by omega) (fun a b => by omega) (fun _ => by omega)) (by rw [v.1, v.2.1]; exact H.z)⟩

theorem p_undo (l : Launch) (D : va_G) (yc : Nat → ClassId) (t1 t2 : Nat) (a b : Int → Nat) (A B : Nat → Prop) {g h : Mm} (H : Rel g h) (n : Int) (hn : R32 n) : PI l D yc t1 t2 a b A B yX4_undo wsX4_undo { frames := 3, cells := 0, slots := 0, locals := 65 } yX5_undo wsX5_undo { frames := 2, cells := 0, slots := 0, locals := 43 } [.ref (a (0)), .int (iI (n))] [.ref (b (0)), .int (iI (n))] g h := by
  refine ⟨_, _, Ci_mono (c_X4_undo_c l D yc t1 t2 a A g n (h 6) hn H.F H.I) ?_, c_X5_undo l D yc t1 t2 b B h n hn H.I (fun c k a b => (uV_ok H.F H.I c (by omega)).2.2 k a b) (fun k a b => by have := (H.I.d a b).1; unfold dOk at this; omega)⟩
  rintro r9 g9 ⟨rfl, rfl⟩
  have hN := H.I.n
  by_cases c : n < 0 ∨ h 6 4 < n
  · refine ⟨by simp only [if_pos c], ?_⟩
    simp only [if_pos c]; exact H
  · refine ⟨by simp only [if_neg c], ?_⟩
    simp only [if_neg c]
    have k := uV_ok H.F H.I (h 6 4 - n).toNat (by omega)
    have e : uV (h 6) (h 6 4) (h 6 4 - n).toNat = fu (uF (h 6) (h 6 4) (h 6 4 - n).toNat) 4 n := by unfold uV; rw [show h 6 4 - ((h 6 4 - n).toNat : Int) = n by omega]
    have k1 := uV_01 H.F H.I (h 6 4 - n).toNat (by omega)
    rw [e] at k k1
    refine Rel_fm H (fun q o => unN_o o.1 o.2.2.2.2.2 _) k.2.1 k.1 ?_
    rw [k1.1, k1.2]
    exact H.z

theorem p_asked (l : Launch) (D : va_G) (yc : Nat → ClassId) (t1 t2 : Nat) (a b : Int → Nat) (A B : Nat → Prop) {g h : Mm} (H : Rel g h)  : PI l D yc t1 t2 a b A B yX4_asked wsX4_asked { frames := 0, cells := 0, slots := 0, locals := 0 } yX5_asked wsX5_asked { frames := 0, cells := 0, slots := 0, locals := 0 } [.ref (a (0))] [.ref (b (0))] g h := by
  refine ⟨_, _, Ci_mono (c_X4_asked l D yc t1 t2 a A g ) ?_, c_X5_asked l D yc t1 t2 b B h ⟩
  rintro r9 g9 ⟨rfl, rfl⟩
  exact ⟨by rw [H.2.2.2.2.2.2.1], H⟩

theorem p_upper (l : Launch) (D : va_G) (yc : Nat → ClassId) (t1 t2 : Nat) (a b : Int → Nat) (A B : Nat → Prop) {g h : Mm} (H : Rel g h)  : PL l D yc t1 t2 a b A B yX4_upper wsX4_upper { frames := 0, cells := 0, slots := 0, locals := 0 } yX5_upper wsX5_upper { frames := 0, cells := 0, slots := 0, locals := 0 } [.ref (a (0))] [.ref (b (0))] g h := by
  refine ⟨_, _, Cl_mono (c_X4_upper l D yc t1 t2 a A g ) ?_, c_X5_upper l D yc t1 t2 b B h ⟩
  rintro r9 g9 ⟨rfl, rfl⟩
  exact ⟨by rw [H.2.2.2.2.2.2.2.1], H⟩

theorem p_lower (l : Launch) (D : va_G) (yc : Nat → ClassId) (t1 t2 : Nat) (a b : Int → Nat) (A B : Nat → Prop) {g h : Mm} (H : Rel g h)  : PL l D yc t1 t2 a b A B yX4_lower wsX4_lower { frames := 0, cells := 0, slots := 0, locals := 0 } yX5_lower wsX5_lower { frames := 0, cells := 0, slots := 0, locals := 0 } [.ref (a (0))] [.ref (b (0))] g h := by
  refine ⟨_, _, Cl_mono (c_X4_lower l D yc t1 t2 a A g ) ?_, c_X5_lower l D yc t1 t2 b B h ⟩
  rintro r9 g9 ⟨rfl, rfl⟩
  exact ⟨by rw [H.2.2.2.2.2.2.2.2], H⟩

theorem p_finding (l : Launch) (D : va_G) (yc : Nat → ClassId) (t1 t2 : Nat) (a b : Int → Nat) (A B : Nat → Prop) {g h : Mm} (H : Rel g h)  : PI l D yc t1 t2 a b A B yX4_finding wsX4_finding { frames := 0, cells := 0, slots := 0, locals := 0 } yX5_finding wsX5_finding { frames := 0, cells := 0, slots := 0, locals := 0 } [.ref (a (0))] [.ref (b (0))] g h := by
  refine ⟨_, _, Ci_mono (c_X4_finding l D yc t1 t2 a A g ) ?_, c_X5_finding l D yc t1 t2 b B h ⟩
  rintro r9 g9 ⟨rfl, rfl⟩
  exact ⟨by rw [H.2.2.2.2.2.1], H⟩

theorem p_findings (l : Launch) (D : va_G) (yc : Nat → ClassId) (t1 t2 : Nat) (a b : Int → Nat) (A B : Nat → Prop) {g h : Mm} (H : Rel g h) (k : Int) (hk : R32 k) : PI l D yc t1 t2 a b A B yX4_findings wsX4_findings { frames := 1, cells := 0, slots := 0, locals := 22 } yX5_findings wsX5_findings { frames := 1, cells := 0, slots := 0, locals := 22 } [.ref (a (0)), .int (iI (k))] [.ref (b (0)), .int (iI (k))] g h := by
  refine ⟨_, _, Ci_mono (c_X4_findings l D yc t1 t2 a A g k hk) ?_, c_X5_findings l D yc t1 t2 b B h k hk⟩
  rintro r9 g9 ⟨rfl, rfl⟩
  refine ⟨?_, H⟩
  by_cases c : k < 1 ∨ 5 < k
  · simp only [if_pos c]
  · simp only [if_neg c]
    rw [H.2.2.2.2.1 k (by omega) (by omega)]

theorem p_count (l : Launch) (D : va_G) (yc : Nat → ClassId) (t1 t2 : Nat) (a b : Int → Nat) (A B : Nat → Prop) {g h : Mm} (H : Rel g h) (k : Int) (hk : R32 k) : PI l D yc t1 t2 a b A B yX4_count wsX4_count { frames := 2, cells := 0, slots := 0, locals := 45 } yX5_count wsX5_count { frames := 2, cells := 0, slots := 0, locals := 44 } [.ref (a (0)), .int (iI (k))] [.ref (b (0)), .int (iI (k))] g h := by
  refine ⟨_, _, Ci_mono (c_X4_count l D yc t1 t2 a A g k (h 6) (kG h) hk H.F H.I H.C (fun k a b => H.G a b)) ?_, c_X5_count l D yc t1 t2 b B h k hk H.M⟩
  rintro r9 g9 ⟨rfl, rfl⟩
  refine ⟨?_, H⟩
  rw [← cn_e H k]; rfl

theorem p_digest (l : Launch) (D : va_G) (yc : Nat → ClassId) (t1 t2 : Nat) (a b : Int → Nat) (A B : Nat → Prop) {g h : Mm} (H : Rel g h)  : PL l D yc t1 t2 a b A B yX4_digest wsX4_digest { frames := 3, cells := 0, slots := 0, locals := 66 } yX5_digest wsX5_digest { frames := 3, cells := 0, slots := 0, locals := 67 } [.ref (a (0))] [.ref (b (0))] g h := by
  refine ⟨_, _, Cl_mono (c_X4_digest l D yc t1 t2 a A g (h 6) (kG h) H.F H.I H.C (fun k a b => H.G a b)) ?_, c_X5_digest l D yc t1 t2 b B h H.M⟩
  rintro r9 g9 ⟨rfl, rfl⟩
  exact ⟨by rw [dg_e H], H⟩
