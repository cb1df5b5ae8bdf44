set_option maxRecDepth 100000 in
set_option maxHeartbeats 4000000 in
theorem c_X4_commonDivisor (l : Launch) (D : va_G) (yc : Nat → ClassId) (t1 t2 : Nat) (A : Nat → Prop) {M : Type} (ww : M → va_W) (g : M) (ab be : Int) (ha : 0 ≤ ab ∧ ab < 500000000000) (hb : 0 < be ∧ be < 500000000000) : Cl l yX4_commonDivisor wsX4_commonDivisor { frames := 0, cells := 0, slots := 0, locals := 0 } D yc t1 t2 A ww [.long (lI (ab)), .long (lI (be))] g (fun r9 g' => r9 = (lI ((Int.gcd ab be : Int))) ∧ g' = g) := by
  refine start_l (cc := cX4_commonDivisor) (nL := 11) (ret := (some .long)) (own := RX4) (by decide +kernel) rfl rfl (Nat.le_of_ble_eq_true rfl) ?_
  intro p e s m9 below meth c9 C
  refine v_lv (lv' := [(0, .long (lI (ab))), (2, .long (lI (be)))]) rfl ?_
  refine v_lload_n C 0 dX4_commonDivisor_0 rfl ?_
  refine v_lstore (lv' := [(4, .long (lI (ab))), (0, .long (lI (ab))), (2, .long (lI (be)))]) C dX4_commonDivisor_1 (by decide) rfl ?_
  refine v_lload_n C 2 dX4_commonDivisor_3 rfl ?_
  refine v_lstore (lv' := [(6, .long (lI (be))), (4, .long (lI (ab))), (0, .long (lI (ab))), (2, .long (lI (be)))]) C dX4_commonDivisor_4 (by decide) rfl ?_
  refine v_iconst C dX4_commonDivisor_6 ?_
  refine v_istore (lv' := [(8, .int (iI (0))), (6, .long (lI (be))), (4, .long (lI (ab))), (0, .long (lI (ab))), (2, .long (lI (be)))]) C dX4_commonDivisor_7 (by decide) rfl ?_
  refine v_lv (congrArg (fun x9 => ([(8, .int (iI x9)), (6, .long (lI (be))), (4, .long (lI (ab))), (0, .long (lI (ab))), (2, .long (lI (be)))] : List (Nat × Value))) (show (0) = (((0 : Int))) by first | rfl | omega | (simp; done))) ?_
  refine v_loop3 (fun (x : Int) (y : Int) (n : Int) => (100 - n).toNat) (fun (x : Int) (y : Int) (n : Int) => 0 ≤ x ∧ 0 ≤ y ∧ 0 < x + y ∧ x < 500000000000 ∧ y < 500000000000 ∧ Int.gcd x y = Int.gcd ab be ∧ 0 ≤ n ∧ n ≤ 100 ∧ (n = 0 → x = ab ∧ y = be) ∧ (0 < n → y < x ∧ x * y * pw n < 1208925819614629174706176)) (fun (x : Int) (y : Int) (n : Int) => [(8, .int (iI (n))), (6, .long (lI (y))), (4, .long (lI (x))), (0, .long (lI (ab))), (2, .long (lI (be)))]) (fun (x : Int) (y : Int) (n : Int) => g) ?_ ab be 0 ⟨by omega, by omega, by omega, by omega, by omega, rfl, by omega, by omega, fun _ => ⟨rfl, rfl⟩, fun h => absurd h (by omega)⟩
  intro x y n hI9 ih9
  try dsimp only at ih9 ⊢
  obtain ⟨i1, i2, i3, i4, i5, i6, i7, i8, i9, i10⟩ := hI9
  refine v_iload C 0 dX4_commonDivisor_9 rfl ?_
  refine v_bipush C dX4_commonDivisor_11 (by decide) ?_
  refine v_icmp_ge (tgt := 44) C dX4_commonDivisor_13 (by decide) (by omega) (by omega) (fun c13 => ?_) (fun c13 => ?_)
  · skip
    refine v_lload C 2 dX4_commonDivisor_44 rfl ?_
    exact v_ret_l C rfl dX4_commonDivisor_46 ⟨(by have hy0 : y = 0 := (by first | assumption | omega | exact Classical.byContradiction (fun z => cd_end (x := x) (y := y) (by omega) (i10 (by omega)).1 (by have h9 := (i10 (by omega)).2; rw [show n = 100 by omega] at h9; exact h9))); rw [show x = (Int.gcd ab be : Int) by rw [← i6, hy0, Int.gcd_zero_right]; omega]), rfl⟩
  · skip
    refine v_lload C 1 dX4_commonDivisor_16 rfl ?_
    refine v_lconst (z := 0) C dX4_commonDivisor_18 (by decide) ?_
    refine v_lcmp C (by omega) (by omega) dX4_commonDivisor_19 (fun h_1 => ?_) (fun h_2 => ?_) (fun h_3 => ?_)
    · skip
      refine v_if_eq (tgt := 44) C dX4_commonDivisor_20 (by decide) (by decide) (fun h9 => absurd h9 (by decide)) (fun _ => ?_)
      refine v_lload C 2 dX4_commonDivisor_23 rfl ?_
      refine v_lload C 1 dX4_commonDivisor_25 rfl ?_
      refine v_lremR (z := (lI (x % y))) C dX4_commonDivisor_27 (lI_ne (by omega) (by omega)) (lI_rem (by omega) (by omega) (by omega) (by omega)) ?_
      refine v_lstore (lv' := [(9, .long (lI (x % y))), (8, .int (iI (n))), (6, .long (lI (y))), (4, .long (lI (x))), (0, .long (lI (ab))), (2, .long (lI (be)))]) C dX4_commonDivisor_28 (by decide) rfl ?_
      refine v_lload C 2 dX4_commonDivisor_30 rfl ?_
      refine v_lstore (lv' := [(4, .long (lI (y))), (9, .long (lI (x % y))), (8, .int (iI (n))), (6, .long (lI (y))), (0, .long (lI (ab))), (2, .long (lI (be)))]) C dX4_commonDivisor_32 (by decide) rfl ?_
      refine v_lload C 1 dX4_commonDivisor_34 rfl ?_
      refine v_lstore (lv' := [(6, .long (lI (x % y))), (4, .long (lI (y))), (9, .long (lI (x % y))), (8, .int (iI (n))), (0, .long (lI (ab))), (2, .long (lI (be)))]) C dX4_commonDivisor_36 (by decide) rfl ?_
      refine v_iinc (z' := n + 1) (lv' := [(8, .int (iI (n + 1))), (6, .long (lI (x % y))), (4, .long (lI (y))), (9, .long (lI (x % y))), (0, .long (lI (ab))), (2, .long (lI (be)))]) C 3 dX4_commonDivisor_38 rfl (by omega) (by decide) rfl ?_
      refine v_goto (tgt := 9) C dX4_commonDivisor_41 (by decide) ?_
      refine v_sub (lv' := [(8, .int (iI (n + 1))), (6, .long (lI (x % y))), (4, .long (lI (y))), (0, .long (lI (ab))), (2, .long (lI (be)))]) [0, 1, 2, 4, 5] rfl ?_
      exact ih9 y (x % y) (n + 1) ⟨by omega, (emd (by omega)).1, by have := (emd (d := x) (n := y) (by omega)).1; omega, by omega, by have := (emd (d := x) (n := y) (by omega)).2; omega, by rw [gcd_step (by omega) (by omega)]; exact i6, by omega, by omega, fun h => absurd h (by omega), fun _ => ⟨(emd (by omega)).2, by
      by_cases h0 : n = 0
      · have h9 := i9 h0
        rw [h0, h9.1, h9.2]; exact cd_start ha.1 ha.2 hb.1 hb.2
      · exact cd_step i7 (by omega) (i10 (by omega)).1 (i10 (by omega)).2⟩⟩ (by omega)
    · skip
      refine v_if_eq (tgt := 44) C dX4_commonDivisor_20 (by decide) (by decide) (fun _ => ?_) (fun h9 => absurd h9 (by decide))
      refine v_lload C 2 dX4_commonDivisor_44 rfl ?_
      exact v_ret_l C rfl dX4_commonDivisor_46 ⟨(by have hy0 : y = 0 := (by first | assumption | omega | exact Classical.byContradiction (fun z => cd_end (x := x) (y := y) (by omega) (i10 (by omega)).1 (by have h9 := (i10 (by omega)).2; rw [show n = 100 by omega] at h9; exact h9))); rw [show x = (Int.gcd ab be : Int) by rw [← i6, hy0, Int.gcd_zero_right]; omega]), rfl⟩
    · skip
      refine v_if_eq (tgt := 44) C dX4_commonDivisor_20 (by decide) (by decide) (fun h9 => absurd h9 (by decide)) (fun _ => ?_)
      refine v_lload C 2 dX4_commonDivisor_23 rfl ?_
      refine v_lload C 1 dX4_commonDivisor_25 rfl ?_
      refine v_lremR (z := (lI (x % y))) C dX4_commonDivisor_27 (lI_ne (by omega) (by omega)) (lI_rem (by omega) (by omega) (by omega) (by omega)) ?_
      refine v_lstore (lv' := [(9, .long (lI (x % y))), (8, .int (iI (n))), (6, .long (lI (y))), (4, .long (lI (x))), (0, .long (lI (ab))), (2, .long (lI (be)))]) C dX4_commonDivisor_28 (by decide) rfl ?_
      refine v_lload C 2 dX4_commonDivisor_30 rfl ?_
      refine v_lstore (lv' := [(4, .long (lI (y))), (9, .long (lI (x % y))), (8, .int (iI (n))), (6, .long (lI (y))), (0, .long (lI (ab))), (2, .long (lI (be)))]) C dX4_commonDivisor_32 (by decide) rfl ?_
      refine v_lload C 1 dX4_commonDivisor_34 rfl ?_
      refine v_lstore (lv' := [(6, .long (lI (x % y))), (4, .long (lI (y))), (9, .long (lI (x % y))), (8, .int (iI (n))), (0, .long (lI (ab))), (2, .long (lI (be)))]) C dX4_commonDivisor_36 (by decide) rfl ?_
      refine v_iinc (z' := n + 1) (lv' := [(8, .int (iI (n + 1))), (6, .long (lI (x % y))), (4, .long (lI (y))), (9, .long (lI (x % y))), (0, .long (lI (ab))), (2, .long (lI (be)))]) C 3 dX4_commonDivisor_38 rfl (by omega) (by decide) rfl ?_
      refine v_goto (tgt := 9) C dX4_commonDivisor_41 (by decide) ?_
      refine v_sub (lv' := [(8, .int (iI (n + 1))), (6, .long (lI (x % y))), (4, .long (lI (y))), (0, .long (lI (ab))), (2, .long (lI (be)))]) [0, 1, 2, 4, 5] rfl ?_
      exact ih9 y (x % y) (n + 1) ⟨by omega, (emd (by omega)).1, by have := (emd (d := x) (n := y) (by omega)).1; omega, by omega, by have := (emd (d := x) (n := y) (by omega)).2; omega, by rw [gcd_step (by omega) (by omega)]; exact i6, by omega, by omega, fun h => absurd h (by omega), fun _ => ⟨(emd (by omega)).2, by
      by_cases h0 : n = 0
      · have h9 := i9 h0
        rw [h0, h9.1, h9.2]; exact cd_start ha.1 ha.2 hb.1 hb.2
      · exact cd_step i7 (by omega) (i10 (by omega)).1 (i10 (by omega)).2⟩⟩ (by omega)

set_option maxRecDepth 100000 in
set_option maxHeartbeats 4000000 in
theorem c_X4_tellPart (l : Launch) (D : va_G) (yc : Nat → ClassId) (t1 t2 : Nat) (a : Int → Nat) (A : Nat → Prop) (g : Mm) (ab be : Int) (ha : 0 ≤ ab ∧ ab < 500000000000) (hb : 0 < be ∧ be < 500000000000) : Cv l yX4_tellPart wsX4_tellPart { frames := 1, cells := 0, slots := 0, locals := 30 } D yc t1 t2 A (cw a yc) [.ref (a (0)), .long (lI (ab)), .long (lI (be))] g (fun g' => g' = (mu (mu g 0 8 (ab / (Int.gcd ab be : Int))) 0 9 (be / (Int.gcd ab be : Int)))) := by
  refine start_v (cc := cX4_tellPart) (nL := 7) (ret := none) (own := RX4) (by decide +kernel) rfl rfl (Nat.le_of_ble_eq_true rfl) ?_
  intro p e s m9 below meth c9 C
  have wf272 : Cond.fieldLink RX4 272 (TX4 8).1 (TX4 8).2.1 (TX4 8).2.2.1 ∈ wsX4_tellPart := by decide +kernel
  have hinX4 : ∀ w ∈ u_ws RX4 TX4 10, w ∈ wsX4_tellPart := by decide +kernel
  have wf40 : Cond.fieldLink RX4 40 (TX4 9).1 (TX4 9).2.1 (TX4 9).2.2.1 ∈ wsX4_tellPart := by decide +kernel
  have hg1 : (Int.gcd ab be : Int) ≤ be := Int.le_of_dvd (by omega) (Int.gcd_dvd_right ..)
  have hg0 : 0 < (Int.gcd ab be : Int) := (by have h8 : (Int.gcd ab be : Int) ≠ 0 := (fun z => by have h7 := Int.gcd_dvd_right ab be; rw [z, Int.zero_dvd] at h7; omega); omega)
  refine v_lv (lv' := [(0, .ref (a (0))), (1, .long (lI (ab))), (3, .long (lI (be)))]) rfl ?_
  refine v_lload_n C 1 dX4_tellPart_0 rfl ?_
  refine v_lload_n C 2 dX4_tellPart_1 rfl ?_
  refine v_cS_l C (As := [.long (lI (ab)), .long (lI (be))]) (rest := []) (c_X4_commonDivisor l D yc t1 t2 A (cw a yc) g ab be (by omega) (by omega)) (va_cwS 2 C.hts gX4_tellPart_X4_commonDivisor rfl rfl rfl (by decide +kernel) ⟨by decide, by decide⟩) rfl rfl (Nat.le_of_ble_eq_true rfl) dX4_tellPart_2 ?_
  intro r9 g9 h9
  rw [h9.1, h9.2]
  clear h9 g9 r9
  try dsimp only
  refine v_lstore (lv' := [(5, .long (lI ((Int.gcd ab be : Int)))), (0, .ref (a (0))), (1, .long (lI (ab))), (3, .long (lI (be)))]) C dX4_tellPart_5 (by decide) rfl ?_
  refine v_lload C 0 dX4_tellPart_7 rfl ?_
  refine v_lconst (z := 0) C dX4_tellPart_9 (by decide) ?_
  refine v_lcmp C (by omega) (by omega) dX4_tellPart_10 (fun h_1 => ?_) (fun h_2 => ?_) (fun h_3 => ?_)
  · skip
    refine v_if_le (tgt := 30) C dX4_tellPart_11 (by decide) (by decide) (fun _ => ?_) (fun h9 => absurd h9 (by decide))
    exact v_ret_v C rfl dX4_tellPart_30 (by first | (exfalso; omega) | rfl)
  · skip
    refine v_if_le (tgt := 30) C dX4_tellPart_11 (by decide) (by decide) (fun _ => ?_) (fun h9 => absurd h9 (by decide))
    exact v_ret_v C rfl dX4_tellPart_30 (by first | (exfalso; omega) | rfl)
  · skip
    refine v_if_le (tgt := 30) C dX4_tellPart_11 (by decide) (by decide) (fun h9 => absurd h9 (by decide)) (fun _ => ?_)
    refine v_aload_n C 1 dX4_tellPart_14 rfl ?_
    refine v_lload_n C 2 dX4_tellPart_15 rfl ?_
    refine v_lload C 0 dX4_tellPart_16 rfl ?_
    refine v_ldivR (z := (lI (ab / (Int.gcd ab be : Int)))) C dX4_tellPart_18 (lI_ne (by omega) (by omega)) (lI_div (by omega) (by omega) (by omega) (by omega)) ?_
    refine v_putl C (cta_L a yc) (by omega) (by omega) ct_cow rfl 8 (by decide) wf272 hinX4 tyX4 tyX4_ok nmX4 rfl (by decide +kernel) (by simp) cs_cow_8 dX4_tellPart_19 ?_
    refine v_g (g' := (mu g (0) (8) (ab / (Int.gcd ab be : Int)))) rfl ?_
    refine v_aload_n C 1 dX4_tellPart_22 rfl ?_
    refine v_lload_n C 3 dX4_tellPart_23 rfl ?_
    refine v_lload C 0 dX4_tellPart_24 rfl ?_
    refine v_ldivR (z := (lI (be / (Int.gcd ab be : Int)))) C dX4_tellPart_26 (lI_ne (by omega) (by omega)) (lI_div (by omega) (by omega) (by omega) (by omega)) ?_
    refine v_putl C (cta_L a yc) (by omega) (by omega) ct_cow rfl 9 (by decide) wf40 hinX4 tyX4 tyX4_ok nmX4 rfl (by decide +kernel) (by simp) cs_cow_9 dX4_tellPart_27 ?_
    refine v_g (g' := (mu (mu g (0) (8) (ab / (Int.gcd ab be : Int))) (0) (9) (be / (Int.gcd ab be : Int)))) rfl ?_
    exact v_ret_v C rfl dX4_tellPart_30 (by first | (exfalso; omega) | rfl)
