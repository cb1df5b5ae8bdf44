/-! Pairs: books. -/
theorem p_fits (l : Launch) (D : va_G) (yc : Nat → ClassId) (t1 t2 : Nat) (a b : Int → Nat) (A B : Nat → Prop) {g h : Mm} (H : Rel g h) (r n : Int) (hr : R32 r) (hn : R32 n) : PI l D yc t1 t2 a b A B yX4_fits wsX4_fits { frames := 3, cells := 0, slots := 0, locals := 63 } yX5_fits wsX5_fits { frames := 3, cells := 0, slots := 0, locals := 65 } [.ref (a (0)), .int (iI (r)), .int (iI (n))] [.ref (b (0)), .int (iI (r)), .int (iI (n))] g h := by
  refine ⟨_, _, Ci_mono (c_X4_fits l D yc t1 t2 a A g r n hr hn H.C) ?_, c_X5_fits l D yc t1 t2 b B h r n hr hn H.M⟩
  rintro r9 g9 ⟨rfl, rfl⟩
  by_cases c : (r < 0 ∨ 5 < r) ∨ (n < 1 ∨ 8 < n)
  · refine ⟨by simp only [if_pos c], ?_⟩
    simp only [if_pos c]; exact H
  · simp only [if_neg c]
    have hs := (H.1.2 r (by omega) (by omega)).2.1
    have ew := wr_e H (r := r) (by omega) (by omega)
    have e0 : tb (cbD g r) (cbF g r) n 0 (g (6 + r) 1 / 2).toNat = zS h r n := by rw [H.sz (by omega) (by omega)]; exact tb_cg _ (fun k x y => bk_e H (by omega) (by omega) x (by omega))
    have e1 : tb (cbD g r) (cbF g r) n 1 (g (6 + r) 1 / 2).toNat = oS h r n := by rw [H.sz (by omega) (by omega)]; exact tb_cg _ (fun k x y => bk_e H (by omega) (by omega) x (by omega))
    simp only [ew, e0, e1]
    by_cases z : wrg h r = 0
    · have z9 : ¬ ¬ wrg h r = 0 := fun y => y z
      simp only [if_neg z9]
      rw [mu_3]
      by_cases y : ad (zS h r n) (oS h r n) = 0
      · have y9 : ¬ ¬ ad (zS h r n) (oS h r n) = 0 := fun w => w y
        simp only [if_neg y9]
        rw [ft_cnt z (by omega) (by omega) y, ft_1 z (by omega) y, Int.gcd_one_right]
        refine ⟨by first | trivial | rfl, ?_⟩
        have K := Rel_pt (Rel_as H (oS h r n)) (pw (n - sI (bt (or2 (zS h r n) (oS h r n))) 24)) 1
        have e5 : ∀ x : Int, x / ((1 : Nat) : Int) = x := fun x => Int.ediv_one x
        rw [e5, e5]; exact K
      · simp only [if_pos y]
        have hN : ftN h r n (pw n) = 0 := by
          rw [ft_cN z (by omega)]
          have := (cN_v (z := bt (zS h r n)) (o := bt (oS h r n)) n.toNat).1 (by rw [show ((n.toNat : Nat) : Int) = n by omega]; exact ft_cl z (by omega) y)
          rw [show ((n.toNat : Nat) : Int) = n by omega] at this; exact this
        rw [hN, ft1_no _ (fun s _ _ => ft_no z (by omega) y s)]
        exact ⟨by first | trivial | rfl, Rel_pt (Rel_as H (-9)) 0 1⟩
    · simp only [if_pos z]
      have hb := wrg_bd h r
      exact ⟨by first | trivial | rfl, Rel_fn H hb.1 hb.2⟩

theorem p_sure (l : Launch) (D : va_G) (yc : Nat → ClassId) (t1 t2 : Nat) (a b : Int → Nat) (A B : Nat → Prop) {g h : Mm} (H : Rel g h) (r n d : Int) (hr : R32 r) (hn : R32 n) (hd : R32 d) : PI l D yc t1 t2 a b A B yX4_sure wsX4_sure { frames := 3, cells := 0, slots := 0, locals := 63 } yX5_sure wsX5_sure { frames := 3, cells := 0, slots := 0, locals := 65 } [.ref (a (0)), .int (iI (r)), .int (iI (n)), .int (iI (d))] [.ref (b (0)), .int (iI (r)), .int (iI (n)), .int (iI (d))] g h := by
  refine ⟨_, _, Ci_mono (c_X4_sure l D yc t1 t2 a A g r n d hr hn hd H.C) ?_, c_X5_sure l D yc t1 t2 b B h r n d hr hn hd H.M⟩
  rintro r9 g9 ⟨rfl, rfl⟩
  by_cases c : (r < 0 ∨ 5 < r) ∨ (n < 1 ∨ 8 < n) ∨ (d < 0 ∨ 999 < d)
  · refine ⟨by simp only [if_pos c], ?_⟩
    simp only [if_pos c]; exact H
  · simp only [if_neg c]
    have hs := (H.1.2 r (by omega) (by omega)).2.1
    have ew := wr_e H (r := r) (by omega) (by omega)
    have e0 : tb (cbD g r) (cbF g r) n 0 (g (6 + r) 1 / 2).toNat = zS h r n := by rw [H.sz (by omega) (by omega)]; exact tb_cg _ (fun k x y => bk_e H (by omega) (by omega) x (by omega))
    have e1 : tb (cbD g r) (cbF g r) n 1 (g (6 + r) 1 / 2).toNat = oS h r n := by rw [H.sz (by omega) (by omega)]; exact tb_cg _ (fun k x y => bk_e H (by omega) (by omega) x (by omega))
    simp only [ew, e0, e1]
    by_cases z : wrg h r = 0
    · have z9 : ¬ ¬ wrg h r = 0 := fun y => y z
      simp only [if_neg z9]
      rw [sure_e z (by omega) (by omega)]
      exact ⟨rfl, H⟩
    · simp only [if_pos z]
      have hb := wrg_bd h r
      exact ⟨by first | trivial | rfl, Rel_fn H hb.1 hb.2⟩
