set_option maxRecDepth 100000 in
set_option maxHeartbeats 4000000 in
theorem c_X5_in (l : Launch) (D : va_G) (yc : Nat → ClassId) (t1 t2 : Nat) (A : Nat → Prop) {M : Type} (ww : M → va_W) (g : M) (v lo hi : Int) (hv : R32 v) (hlo : R32 lo) (hhi : R32 hi) : Ci l yX5_in wsX5_in { frames := 0, cells := 0, slots := 0, locals := 0 } D yc t1 t2 A ww [.int (iI (v)), .int (iI (lo)), .int (iI (hi))] g (fun r9 g' => r9 = (bI (lo ≤ v ∧ v ≤ hi)) ∧ g' = g) := by
  refine start_i (cc := cX5_in) (nL := 3) (ret := (some .boolean)) (own := RX5) (by decide +kernel) rfl rfl (Nat.le_of_ble_eq_true rfl) ?_
  intro p e s m9 below meth c9 C
  refine v_lv (lv' := [(0, .int (iI (v))), (1, .int (iI (lo))), (2, .int (iI (hi)))]) rfl ?_
  refine v_iload_n C 0 dX5_in_0 rfl ?_
  refine v_iload_n C 1 dX5_in_1 rfl ?_
  refine v_icmp_lt (tgt := 14) C dX5_in_2 (by decide) (by omega) (by omega) (fun c2 => ?_) (fun c2 => ?_)
  · skip
    refine v_iconst C dX5_in_14 ?_
    exact v_ret_z C rfl (Or.inl rfl) dX5_in_15 ⟨(bI_f (by omega)), rfl⟩
  · skip
    refine v_iload_n C 0 dX5_in_5 rfl ?_
    refine v_iload_n C 2 dX5_in_6 rfl ?_
    refine v_icmp_gt (tgt := 14) C dX5_in_7 (by decide) (by omega) (by omega) (fun c7 => ?_) (fun c7 => ?_)
    · skip
      refine v_iconst C dX5_in_14 ?_
      exact v_ret_z C rfl (Or.inl rfl) dX5_in_15 ⟨(bI_f (by omega)), rfl⟩
    · skip
      refine v_iconst C dX5_in_10 ?_
      refine v_goto (tgt := 15) C dX5_in_11 (by decide) ?_
      exact v_ret_z C rfl (Or.inr rfl) dX5_in_15 ⟨(bI_t (by omega)), rfl⟩

set_option maxRecDepth 100000 in
set_option maxHeartbeats 4000000 in
theorem c_X5_has (l : Launch) (D : va_G) (yc : Nat → ClassId) (t1 t2 : Nat) (A : Nat → Prop) {M : Type} (ww : M → va_W) (g : M) (se k : Int) (hs : 0 ≤ se ∧ se < 2147483648) (hk : 0 ≤ k ∧ k < 31) : Ci l yX5_has wsX5_has { frames := 0, cells := 0, slots := 0, locals := 0 } D yc t1 t2 A ww [.int (iI (se)), .int (iI (k))] g (fun r9 g' => r9 = (bI (bt se k = 1)) ∧ g' = g) := by
  refine start_i (cc := cX5_has) (nL := 2) (ret := (some .boolean)) (own := RX5) (by decide +kernel) rfl rfl (Nat.le_of_ble_eq_true rfl) ?_
  intro p e s m9 below meth c9 C
  have hb := bt01 se k
  refine v_lv (lv' := [(0, .int (iI (se))), (1, .int (iI (k)))]) rfl ?_
  refine v_iload_n C 0 dX5_has_0 rfl ?_
  refine v_iload_n C 1 dX5_has_1 rfl ?_
  refine v_ishr (z := (iI (se / pw k))) C dX5_has_2 (shr_bt (by omega) (by omega) (by omega) (by omega)) ?_
  refine v_iconst C dX5_has_3 ?_
  refine v_iand (z := (iI (bt se k))) C dX5_has_4 (and_1 (Int.ediv_nonneg (by omega) (by have := pw_pos k; omega)) (Int.lt_of_le_of_lt (Int.ediv_le_self _ (by omega)) (by omega))) ?_
  refine v_iconst C dX5_has_5 ?_
  refine v_icmp_ne (tgt := 13) C dX5_has_6 (by decide) (by omega) (by omega) (fun c6 => ?_) (fun c6 => ?_)
  · skip
    refine v_iconst C dX5_has_13 ?_
    exact v_ret_z C rfl (Or.inl rfl) dX5_has_14 ⟨(bI_f (by omega)), rfl⟩
  · skip
    refine v_iconst C dX5_has_9 ?_
    refine v_goto (tgt := 14) C dX5_has_10 (by decide) ?_
    exact v_ret_z C rfl (Or.inr rfl) dX5_has_14 ⟨(bI_t (by omega)), rfl⟩

set_option maxRecDepth 100000 in
set_option maxHeartbeats 4000000 in
theorem c_X5_ones (l : Launch) (D : va_G) (yc : Nat → ClassId) (t1 t2 : Nat) (A : Nat → Prop) {M : Type} (ww : M → va_W) (g : M) (se : Int) (hs : 0 ≤ se ∧ se < 2147483648) : Ci l yX5_ones wsX5_ones { frames := 0, cells := 0, slots := 0, locals := 0 } D yc t1 t2 A ww [.int (iI (se))] g (fun r9 g' => r9 = (iI (sI (bt se) 24)) ∧ g' = g) := by
  refine start_i (cc := cX5_ones) (nL := 3) (ret := (some .int)) (own := RX5) (by decide +kernel) rfl rfl (Nat.le_of_ble_eq_true rfl) ?_
  intro p e s m9 below meth c9 C
  refine v_lv (lv' := [(0, .int (iI (se)))]) rfl ?_
  refine v_iconst C dX5_ones_0 ?_
  refine v_istore_n (lv' := [(1, .int (iI (0))), (0, .int (iI (se)))]) C dX5_ones_1 (by decide) rfl ?_
  refine v_iconst C dX5_ones_2 ?_
  refine v_istore_n (lv' := [(2, .int (iI (0))), (1, .int (iI (0))), (0, .int (iI (se)))]) C dX5_ones_3 (by decide) rfl ?_
  refine v_lv (congrArg (fun x9 => ([(2, .int (iI (0))), (1, .int (iI x9)), (0, .int (iI (se)))] : List (Nat × Value))) (show (0) = (sI (bt se) 0) by first | rfl | omega | (simp; done))) ?_
  refine v_loop1 (fun (t : Int) => (24 - t).toNat) (fun (t : Int) => 0 ≤ t ∧ t ≤ 24) (fun (t : Int) => [(2, .int (iI (t))), (1, .int (iI (sI (bt se) t))), (0, .int (iI (se)))]) (fun (t : Int) => g) ?_ 0 (by omega)
  intro t hI4 ih4
  try dsimp only at ih4 ⊢
  refine v_iload_n C 0 dX5_ones_4 rfl ?_
  refine v_bipush C dX5_ones_5 (by decide) ?_
  refine v_icmp_ge (tgt := 24) C dX5_ones_7 (by decide) (by omega) (by omega) (fun c7 => ?_) (fun c7 => ?_)
  · skip
    refine v_iload_n C 1 dX5_ones_24 rfl ?_
    exact v_ret_i C rfl dX5_ones_25 ⟨(by rw [show t = 24 by omega]), rfl⟩
  · skip
    refine v_iload_n C 1 dX5_ones_10 rfl ?_
    refine v_iload_n C 2 dX5_ones_11 rfl ?_
    refine v_iload_n C 0 dX5_ones_12 rfl ?_
    refine v_ishr (z := (iI (se / pw t))) C dX5_ones_13 (shr_bt (by omega) (by omega) (by omega) (by omega)) ?_
    refine v_iconst C dX5_ones_14 ?_
    refine v_iand (z := (iI (bt se t))) C dX5_ones_15 (and_1 (Int.ediv_nonneg (by omega) (by have := pw_pos t; omega)) (Int.lt_of_le_of_lt (Int.ediv_le_self _ (by omega)) (by omega))) ?_
    refine v_iadd C dX5_ones_16 ?_
    refine v_istore_n (lv' := [(1, .int (iI ((sI (bt se) t) + (bt se t)))), (2, .int (iI (t))), (0, .int (iI (se)))]) C dX5_ones_17 (by decide) rfl ?_
    refine v_iinc (z' := t + 1) (lv' := [(2, .int (iI (t + 1))), (1, .int (iI ((sI (bt se) t) + (bt se t)))), (0, .int (iI (se)))]) C 1 dX5_ones_18 rfl (by omega) (by decide) rfl ?_
    refine v_goto (tgt := 4) C dX5_ones_21 (by decide) ?_
    refine v_lv (congrArg (fun x9 => ([(2, .int (iI (t + 1))), (1, .int (iI x9)), (0, .int (iI (se)))] : List (Nat × Value))) (show ((sI (bt se) t) + (bt se t)) = (sI (bt se) (t + 1)) by first | rfl | (exact (sI_s _ (by omega)).symm))) ?_
    exact ih4 (t + 1) (by omega) (by omega)

set_option maxRecDepth 100000 in
set_option maxHeartbeats 4000000 in
theorem c_X5_finds (l : Launch) (D : va_G) (yc : Nat → ClassId) (t1 t2 : Nat) (a : Int → Nat) (A : Nat → Prop) (g : Mm) (w : Int) (hw : 0 ≤ w ∧ w ≤ 5) : Ci l yX5_finds wsX5_finds { frames := 0, cells := 0, slots := 0, locals := 0 } D yc t1 t2 A (mw a yc) [.ref (a (0)), .int (iI (w))] g (fun r9 g' => r9 = (iI (-3)) ∧ g' = (fnM g w)) := by
  refine start_i (cc := cX5_finds) (nL := 2) (ret := (some .int)) (own := RX5) (by decide +kernel) rfl rfl (Nat.le_of_ble_eq_true rfl) ?_
  intro p e s m9 below meth c9 C
  have wf48 : Cond.fieldLink RX5 48 (TX5 10).1 (TX5 10).2.1 (TX5 10).2.2.1 ∈ wsX5_finds := by decide +kernel
  have hinX5 : ∀ w ∈ u_ws RX5 TX5 17, w ∈ wsX5_finds := by decide +kernel
  have wf38 : Cond.fieldLink RX5 38 (TX5 9).1 (TX5 9).2.1 (TX5 9).2.2.1 ∈ wsX5_finds := by decide +kernel
  refine v_lv (lv' := [(0, .ref (a (0))), (1, .int (iI (w)))]) rfl ?_
  refine v_aload_n C 0 dX5_finds_0 rfl ?_
  refine v_iload_n C 1 dX5_finds_1 rfl ?_
  refine v_puti C (ctm_L a yc) (by omega) (by omega) ct_mod rfl 10 (by decide) wf48 hinX5 tyX5 tyX5_ok nmX5 rfl (by decide +kernel) (by simp) cs_mod_10 dX5_finds_2 ?_
  refine v_g (g' := (mu g (0) (10) (w))) rfl ?_
  refine v_aload_n C 0 dX5_finds_5 rfl ?_
  refine v_getf C (by omega) (by omega) ct_mod rfl 9 (by decide) wf38 hinX5 rfl dX5_finds_6 ?_
  refine v_iload_n C 1 dX5_finds_9 rfl ?_
  refine v_dup2 C dX5_finds_10 rfl rfl ?_
  refine v_iaload C (by omega) (by omega) ct_mfound (by omega) (by omega) (by decide) dX5_finds_11 ?_
  refine v_st (st' := [.int (iI (g (10) (w))), .int (iI (w)), .ref (a (10))]) (by rw [mu_ne (show 10 ≠ 0 by omega)]) ?_
  refine v_iconst C dX5_finds_12 ?_
  refine v_iadd C dX5_finds_13 ?_
  refine v_iastore C (ctm_L a yc) (by omega) (by omega) ct_mfound (ct_mfound).symm (by omega) (by omega) (by decide) dX5_finds_14 ?_
  refine v_bipush C dX5_finds_15 (by decide) ?_
  exact v_ret_i C rfl dX5_finds_17 ⟨rfl, rfl⟩

set_option maxRecDepth 100000 in
set_option maxHeartbeats 4000000 in
theorem c_X5_tells (l : Launch) (D : va_G) (yc : Nat → ClassId) (t1 t2 : Nat) (a : Int → Nat) (A : Nat → Prop) (g : Mm) (x y : Int)  : Ci l yX5_tells wsX5_tells { frames := 0, cells := 0, slots := 0, locals := 0 } D yc t1 t2 A (mw a yc) [.ref (a (0)), .int (iI (x)), .int (iI (y))] g (fun r9 g' => r9 = (iI (x)) ∧ g' = (mu g 0 11 y)) := by
  refine start_i (cc := cX5_tells) (nL := 3) (ret := (some .int)) (own := RX5) (by decide +kernel) rfl rfl (Nat.le_of_ble_eq_true rfl) ?_
  intro p e s m9 below meth c9 C
  have wf52 : Cond.fieldLink RX5 52 (TX5 11).1 (TX5 11).2.1 (TX5 11).2.2.1 ∈ wsX5_tells := by decide +kernel
  have hinX5 : ∀ w ∈ u_ws RX5 TX5 17, w ∈ wsX5_tells := by decide +kernel
  refine v_lv (lv' := [(0, .ref (a (0))), (1, .int (iI (x))), (2, .int (iI (y)))]) rfl ?_
  refine v_aload_n C 0 dX5_tells_0 rfl ?_
  refine v_iload_n C 2 dX5_tells_1 rfl ?_
  refine v_puti C (ctm_L a yc) (by omega) (by omega) ct_mod rfl 11 (by decide) wf52 hinX5 tyX5 tyX5_ok nmX5 rfl (by decide +kernel) (by simp) cs_mod_11 dX5_tells_2 ?_
  refine v_g (g' := (mu g (0) (11) (y))) rfl ?_
  refine v_iload_n C 1 dX5_tells_5 rfl ?_
  exact v_ret_i C rfl dX5_tells_6 ⟨rfl, rfl⟩

set_option maxRecDepth 100000 in
set_option maxHeartbeats 4000000 in
theorem c_X5_tellsParts (l : Launch) (D : va_G) (yc : Nat → ClassId) (t1 t2 : Nat) (a : Int → Nat) (A : Nat → Prop) (g : Mm) (ab be : Int) (ha : 0 ≤ ab ∧ ab < 9000000000000000000) (hb : 0 < be ∧ be < 9000000000000000000) : Ci l yX5_tellsParts wsX5_tellsParts { frames := 0, cells := 0, slots := 0, locals := 0 } D yc t1 t2 A (mw a yc) [.ref (a (0)), .long (lI (ab)), .long (lI (be))] g (fun r9 g' => r9 = (iI (1)) ∧ g' = (mu (mu g 0 12 (ab / (Int.gcd ab be : Int))) 0 13 (be / (Int.gcd ab be : Int)))) := by
  refine start_i (cc := cX5_tellsParts) (nL := 11) (ret := (some .int)) (own := RX5) (by decide +kernel) rfl rfl (Nat.le_of_ble_eq_true rfl) ?_
  intro p e s m9 below meth c9 C
  have wf55 : Cond.fieldLink RX5 55 (TX5 12).1 (TX5 12).2.1 (TX5 12).2.2.1 ∈ wsX5_tellsParts := by decide +kernel
  have hinX5 : ∀ w ∈ u_ws RX5 TX5 17, w ∈ wsX5_tellsParts := by decide +kernel
  have wf44 : Cond.fieldLink RX5 44 (TX5 13).1 (TX5 13).2.1 (TX5 13).2.2.1 ∈ wsX5_tellsParts := by decide +kernel
  refine v_lv (lv' := [(0, .ref (a (0))), (1, .long (lI (ab))), (3, .long (lI (be)))]) rfl ?_
  refine v_lload_n C 1 dX5_tellsParts_0 rfl ?_
  refine v_lstore (lv' := [(5, .long (lI (ab))), (0, .ref (a (0))), (1, .long (lI (ab))), (3, .long (lI (be)))]) C dX5_tellsParts_1 (by decide) rfl ?_
  refine v_lload_n C 3 dX5_tellsParts_3 rfl ?_
  refine v_lstore (lv' := [(7, .long (lI (be))), (5, .long (lI (ab))), (0, .ref (a (0))), (1, .long (lI (ab))), (3, .long (lI (be)))]) C dX5_tellsParts_4 (by decide) rfl ?_
  refine v_loop2 (fun (x : Int) (y : Int) => y.toNat) (fun (x : Int) (y : Int) => 0 ≤ x ∧ 0 ≤ y ∧ 0 < x + y ∧ x < 9000000000000000000 ∧ y < 9000000000000000000 ∧ Int.gcd x y = Int.gcd ab be) (fun (x : Int) (y : Int) => [(7, .long (lI (y))), (5, .long (lI (x))), (0, .ref (a (0))), (1, .long (lI (ab))), (3, .long (lI (be)))]) (fun (x : Int) (y : Int) => g) ?_ ab be ⟨by omega, by omega, by omega, by omega, by omega, rfl⟩
  intro x y hI6 ih6
  try dsimp only at ih6 ⊢
  refine v_lload C 0 dX5_tellsParts_6 rfl ?_
  refine v_lconst (z := 0) C dX5_tellsParts_8 (by decide) ?_
  refine v_lcmp C (by omega) (by omega) dX5_tellsParts_9 (fun h_1 => ?_) (fun h_2 => ?_) (fun h_3 => ?_)
  · skip
    refine v_if_eq (tgt := 31) C dX5_tellsParts_10 (by decide) (by decide) (fun h9 => absurd h9 (by decide)) (fun _ => ?_)
    refine v_lload C 1 dX5_tellsParts_13 rfl ?_
    refine v_lload C 0 dX5_tellsParts_15 rfl ?_
    refine v_lremR (z := (lI (x % y))) C dX5_tellsParts_17 (lI_ne (by omega) (by omega)) (lI_rem (by omega) (by omega) (by omega) (by omega)) ?_
    refine v_lstore (lv' := [(9, .long (lI (x % y))), (7, .long (lI (y))), (5, .long (lI (x))), (0, .ref (a (0))), (1, .long (lI (ab))), (3, .long (lI (be)))]) C dX5_tellsParts_18 (by decide) rfl ?_
    refine v_lload C 1 dX5_tellsParts_20 rfl ?_
    refine v_lstore (lv' := [(5, .long (lI (y))), (9, .long (lI (x % y))), (7, .long (lI (y))), (0, .ref (a (0))), (1, .long (lI (ab))), (3, .long (lI (be)))]) C dX5_tellsParts_22 (by decide) rfl ?_
    refine v_lload C 1 dX5_tellsParts_24 rfl ?_
    refine v_lstore (lv' := [(7, .long (lI (x % y))), (5, .long (lI (y))), (9, .long (lI (x % y))), (0, .ref (a (0))), (1, .long (lI (ab))), (3, .long (lI (be)))]) C dX5_tellsParts_26 (by decide) rfl ?_
    refine v_goto (tgt := 6) C dX5_tellsParts_28 (by decide) ?_
    refine v_sub (lv' := [(7, .long (lI (x % y))), (5, .long (lI (y))), (0, .ref (a (0))), (1, .long (lI (ab))), (3, .long (lI (be)))]) [0, 1, 3, 4, 5] rfl ?_
    exact ih6 y (x % y) ⟨by omega, (emd (by omega)).1, by have := (emd (d := x) (n := y) (by omega)).1; omega, by omega, by have := (emd (d := x) (n := y) (by omega)).2; omega, by rw [gcd_step (by omega) (by omega)]; omega⟩ (by have := emd (d := x) (n := y) (by omega); omega)
  · skip
    refine v_if_eq (tgt := 31) C dX5_tellsParts_10 (by decide) (by decide) (fun _ => ?_) (fun h9 => absurd h9 (by decide))
    refine v_aload_n C 2 dX5_tellsParts_31 rfl ?_
    refine v_lload_n C 3 dX5_tellsParts_32 rfl ?_
    refine v_lload C 1 dX5_tellsParts_33 rfl ?_
    refine v_ldivR (z := (lI (ab / x))) C dX5_tellsParts_35 (lI_ne (by omega) (by omega)) (lI_div (by omega) (by omega) (by omega) (by omega)) ?_
    refine v_putl C (ctm_L a yc) (by omega) (by omega) ct_mod rfl 12 (by decide) wf55 hinX5 tyX5 tyX5_ok nmX5 rfl (by decide +kernel) (by simp) cs_mod_12 dX5_tellsParts_36 ?_
    refine v_g (g' := (mu g (0) (12) (ab / x))) rfl ?_
    refine v_aload_n C 2 dX5_tellsParts_39 rfl ?_
    refine v_lload_n C 4 dX5_tellsParts_40 rfl ?_
    refine v_lload C 1 dX5_tellsParts_41 rfl ?_
    refine v_ldivR (z := (lI (be / x))) C dX5_tellsParts_43 (lI_ne (by omega) (by omega)) (lI_div (by omega) (by omega) (by omega) (by omega)) ?_
    refine v_putl C (ctm_L a yc) (by omega) (by omega) ct_mod rfl 13 (by decide) wf44 hinX5 tyX5 tyX5_ok nmX5 rfl (by decide +kernel) (by simp) cs_mod_13 dX5_tellsParts_44 ?_
    refine v_g (g' := (mu (mu g (0) (12) (ab / x)) (0) (13) (be / x))) rfl ?_
    refine v_iconst C dX5_tellsParts_47 ?_
    exact v_ret_i C rfl dX5_tellsParts_48 ⟨rfl, (by rw [show x = (Int.gcd ab be : Int) by rw [← hI6.2.2.2.2.2, show y = 0 by omega, Int.gcd_zero_right]; omega])⟩
  · skip
    refine v_if_eq (tgt := 31) C dX5_tellsParts_10 (by decide) (by decide) (fun h9 => absurd h9 (by decide)) (fun _ => ?_)
    refine v_lload C 1 dX5_tellsParts_13 rfl ?_
    refine v_lload C 0 dX5_tellsParts_15 rfl ?_
    refine v_lremR (z := (lI (x % y))) C dX5_tellsParts_17 (lI_ne (by omega) (by omega)) (lI_rem (by omega) (by omega) (by omega) (by omega)) ?_
    refine v_lstore (lv' := [(9, .long (lI (x % y))), (7, .long (lI (y))), (5, .long (lI (x))), (0, .ref (a (0))), (1, .long (lI (ab))), (3, .long (lI (be)))]) C dX5_tellsParts_18 (by decide) rfl ?_
    refine v_lload C 1 dX5_tellsParts_20 rfl ?_
    refine v_lstore (lv' := [(5, .long (lI (y))), (9, .long (lI (x % y))), (7, .long (lI (y))), (0, .ref (a (0))), (1, .long (lI (ab))), (3, .long (lI (be)))]) C dX5_tellsParts_22 (by decide) rfl ?_
    refine v_lload C 1 dX5_tellsParts_24 rfl ?_
    refine v_lstore (lv' := [(7, .long (lI (x % y))), (5, .long (lI (y))), (9, .long (lI (x % y))), (0, .ref (a (0))), (1, .long (lI (ab))), (3, .long (lI (be)))]) C dX5_tellsParts_26 (by decide) rfl ?_
    refine v_goto (tgt := 6) C dX5_tellsParts_28 (by decide) ?_
    refine v_sub (lv' := [(7, .long (lI (x % y))), (5, .long (lI (y))), (0, .ref (a (0))), (1, .long (lI (ab))), (3, .long (lI (be)))]) [0, 1, 3, 4, 5] rfl ?_
    exact ih6 y (x % y) ⟨by omega, (emd (by omega)).1, by have := (emd (d := x) (n := y) (by omega)).1; omega, by omega, by have := (emd (d := x) (n := y) (by omega)).2; omega, by rw [gcd_step (by omega) (by omega)]; omega⟩ (by have := emd (d := x) (n := y) (by omega); omega)

set_option maxRecDepth 100000 in
set_option maxHeartbeats 4000000 in
theorem c_X5_isRow (l : Launch) (D : va_G) (yc : Nat → ClassId) (t1 t2 : Nat) (A : Nat → Prop) {M : Type} (ww : M → va_W) (g : M) (r : Int) (hr : R32 r) : Ci l yX5_isRow wsX5_isRow { frames := 1, cells := 0, slots := 0, locals := 22 } D yc t1 t2 A ww [.int (iI (r))] g (fun r9 g' => r9 = (bI (0 ≤ r ∧ r ≤ 5)) ∧ g' = g) := by
  refine start_i (cc := cX5_isRow) (nL := 1) (ret := (some .boolean)) (own := RX5) (by decide +kernel) rfl rfl (Nat.le_of_ble_eq_true rfl) ?_
  intro p e s m9 below meth c9 C
  refine v_lv (lv' := [(0, .int (iI (r)))]) rfl ?_
  refine v_iload_n C 0 dX5_isRow_0 rfl ?_
  refine v_iconst C dX5_isRow_1 ?_
  refine v_iconst C dX5_isRow_2 ?_
  refine v_cS_i C (As := [.int (iI (r)), .int (iI (0)), .int (iI (5))]) (rest := []) (c_X5_in l D yc t1 t2 A ww g r 0 5 (by omega) (by omega) (by omega)) (va_cwS 3 C.hts gX5_isRow_X5_in rfl rfl rfl (by decide +kernel) ⟨by decide, by decide⟩) rfl rfl (Nat.le_of_ble_eq_true rfl) dX5_isRow_3 ?_
  intro r9 g9 h9
  rw [h9.1, h9.2]
  clear h9 g9 r9
  try dsimp only
  exact v_ret_z C rfl (bI_01 _) dX5_isRow_6 ⟨rfl, rfl⟩

set_option maxRecDepth 100000 in
set_option maxHeartbeats 4000000 in
theorem c_X5_isText (l : Launch) (D : va_G) (yc : Nat → ClassId) (t1 t2 : Nat) (A : Nat → Prop) {M : Type} (ww : M → va_W) (g : M) (t : Int) (ht : R32 t) : Ci l yX5_isText wsX5_isText { frames := 1, cells := 0, slots := 0, locals := 22 } D yc t1 t2 A ww [.int (iI (t))] g (fun r9 g' => r9 = (bI (0 ≤ t ∧ t ≤ 3)) ∧ g' = g) := by
  refine start_i (cc := cX5_isText) (nL := 1) (ret := (some .boolean)) (own := RX5) (by decide +kernel) rfl rfl (Nat.le_of_ble_eq_true rfl) ?_
  intro p e s m9 below meth c9 C
  refine v_lv (lv' := [(0, .int (iI (t)))]) rfl ?_
  refine v_iload_n C 0 dX5_isText_0 rfl ?_
  refine v_iconst C dX5_isText_1 ?_
  refine v_iconst C dX5_isText_2 ?_
  refine v_cS_i C (As := [.int (iI (t)), .int (iI (0)), .int (iI (3))]) (rest := []) (c_X5_in l D yc t1 t2 A ww g t 0 3 (by omega) (by omega) (by omega)) (va_cwS 3 C.hts gX5_isText_X5_in rfl rfl rfl (by decide +kernel) ⟨by decide, by decide⟩) rfl rfl (Nat.le_of_ble_eq_true rfl) dX5_isText_3 ?_
  intro r9 g9 h9
  rw [h9.1, h9.2]
  clear h9 g9 r9
  try dsimp only
  exact v_ret_z C rfl (bI_01 _) dX5_isText_6 ⟨rfl, rfl⟩

set_option maxRecDepth 100000 in
set_option maxHeartbeats 4000000 in
theorem c_X5_isDay (l : Launch) (D : va_G) (yc : Nat → ClassId) (t1 t2 : Nat) (A : Nat → Prop) {M : Type} (ww : M → va_W) (g : M) (d : Int) (hd : R32 d) : Ci l yX5_isDay wsX5_isDay { frames := 1, cells := 0, slots := 0, locals := 22 } D yc t1 t2 A ww [.int (iI (d))] g (fun r9 g' => r9 = (bI (0 ≤ d ∧ d ≤ 999)) ∧ g' = g) := by
  refine start_i (cc := cX5_isDay) (nL := 1) (ret := (some .boolean)) (own := RX5) (by decide +kernel) rfl rfl (Nat.le_of_ble_eq_true rfl) ?_
  intro p e s m9 below meth c9 C
  refine v_lv (lv' := [(0, .int (iI (d)))]) rfl ?_
  refine v_iload_n C 0 dX5_isDay_0 rfl ?_
  refine v_iconst C dX5_isDay_1 ?_
  refine v_sipush C dX5_isDay_2 (by decide) ?_
  refine v_cS_i C (As := [.int (iI (d)), .int (iI (0)), .int (iI (999))]) (rest := []) (c_X5_in l D yc t1 t2 A ww g d 0 999 (by omega) (by omega) (by omega)) (va_cwS 3 C.hts gX5_isDay_X5_in rfl rfl rfl (by decide +kernel) ⟨by decide, by decide⟩) rfl rfl (Nat.le_of_ble_eq_true rfl) dX5_isDay_5 ?_
  intro r9 g9 h9
  rw [h9.1, h9.2]
  clear h9 g9 r9
  try dsimp only
  exact v_ret_z C rfl (bI_01 _) dX5_isDay_8 ⟨rfl, rfl⟩

set_option maxRecDepth 100000 in
set_option maxHeartbeats 4000000 in
theorem c_X5_lays (l : Launch) (D : va_G) (yc : Nat → ClassId) (t1 t2 : Nat) (a : Int → Nat) (A : Nat → Prop) (g : Mm) (r n : Int) (hr : 0 ≤ r ∧ r < 6) : Cv l yX5_lays wsX5_lays { frames := 0, cells := 0, slots := 0, locals := 0 } D yc t1 t2 A (mw a yc) [.ref (a (0)), .int (iI (r)), .int (iI (n))] g (fun g' => g' = (fls (mu g 1 r n) 2 (40 * r) 40 0)) := by
  refine start_v (cc := cX5_lays) (nL := 4) (ret := none) (own := RX5) (by decide +kernel) rfl rfl (Nat.le_of_ble_eq_true rfl) ?_
  intro p e s m9 below meth c9 C
  have wf7 : Cond.fieldLink RX5 7 (TX5 0).1 (TX5 0).2.1 (TX5 0).2.2.1 ∈ wsX5_lays := by decide +kernel
  have hinX5 : ∀ w ∈ u_ws RX5 TX5 17, w ∈ wsX5_lays := by decide +kernel
  have wf13 : Cond.fieldLink RX5 13 (TX5 1).1 (TX5 1).2.1 (TX5 1).2.2.1 ∈ wsX5_lays := by decide +kernel
  refine v_lv (lv' := [(0, .ref (a (0))), (1, .int (iI (r))), (2, .int (iI (n)))]) rfl ?_
  refine v_aload_n C 0 dX5_lays_0 rfl ?_
  refine v_getf C (by omega) (by omega) ct_mod rfl 0 (by decide) wf7 hinX5 rfl dX5_lays_1 ?_
  refine v_iload_n C 1 dX5_lays_4 rfl ?_
  refine v_iload_n C 2 dX5_lays_5 rfl ?_
  refine v_iastore C (ctm_L a yc) (by omega) (by omega) ct_msizes (ct_msizes).symm (by omega) (by omega) (by decide) dX5_lays_6 ?_
  refine v_iconst C dX5_lays_7 ?_
  refine v_istore_n (lv' := [(3, .int (iI (0))), (0, .ref (a (0))), (1, .int (iI (r))), (2, .int (iI (n)))]) C dX5_lays_8 (by decide) rfl ?_
  refine v_g (g' := (fls (mu g 1 r n) 2 (40 * r) 0 0)) (by rw [fls_0]) ?_
  refine v_loop1 (fun (t : Int) => (40 - t).toNat) (fun (t : Int) => 0 ≤ t ∧ t ≤ 40) (fun (t : Int) => [(3, .int (iI (t))), (0, .ref (a (0))), (1, .int (iI (r))), (2, .int (iI (n)))]) (fun (t : Int) => (fls (mu g 1 r n) 2 (40 * r) t 0)) ?_ 0 (by omega)
  intro t hI9 ih9
  try dsimp only at ih9 ⊢
  refine v_iload_n C 0 dX5_lays_9 rfl ?_
  refine v_bipush C dX5_lays_10 (by decide) ?_
  refine v_icmp_ge (tgt := 33) C dX5_lays_12 (by decide) (by omega) (by omega) (fun c12 => ?_) (fun c12 => ?_)
  · skip
    exact v_ret_v C rfl dX5_lays_33 (by rw [show t = 40 by omega])
  · skip
    refine v_aload_n C 1 dX5_lays_15 rfl ?_
    refine v_getf C (by omega) (by omega) ct_mod rfl 1 (by decide) wf13 hinX5 rfl dX5_lays_16 ?_
    refine v_bipush C dX5_lays_19 (by decide) ?_
    refine v_iload_n C 2 dX5_lays_21 rfl ?_
    refine v_imul C dX5_lays_22 ?_
    refine v_iload_n C 0 dX5_lays_23 rfl ?_
    refine v_iadd C dX5_lays_24 ?_
    refine v_iconst C dX5_lays_25 ?_
    refine v_iastore C (ctm_L a yc) (by omega) (by omega) ct_mitems (ct_mitems).symm (by omega) (by omega) (by decide) dX5_lays_26 ?_
    refine v_iinc (z' := t + 1) (lv' := [(3, .int (iI (t + 1))), (0, .ref (a (0))), (1, .int (iI (r))), (2, .int (iI (n)))]) C 0 dX5_lays_27 rfl (by omega) (by decide) rfl ?_
    refine v_goto (tgt := 9) C dX5_lays_30 (by decide) ?_
    exact v_g (fls_s (by omega)) (ih9 (t + 1) (by omega) (by omega))

set_option maxRecDepth 100000 in
set_option maxHeartbeats 4000000 in
theorem c_X5_row (l : Launch) (D : va_G) (yc : Nat → ClassId) (t1 t2 : Nat) (a : Int → Nat) (A : Nat → Prop) (g : Mm) (r n : Int) (hr : R32 r) (hn : R32 n) : Ci l yX5_row wsX5_row { frames := 2, cells := 0, slots := 0, locals := 42 } D yc t1 t2 A (mw a yc) [.ref (a (0)), .int (iI (r)), .int (iI (n))] g (fun r9 g' => r9 = (iI (if (r < 0 ∨ 5 < r) ∨ 40 < n then -1 else if n < 0 then -3 else n)) ∧ g' = (if (r < 0 ∨ 5 < r) ∨ 40 < n then g else if n < 0 then fnM g 5 else (fls (mu g 1 r n) 2 (40 * r) 40 0))) := by
  refine start_i (cc := cX5_row) (nL := 3) (ret := (some .int)) (own := RX5) (by decide +kernel) rfl rfl (Nat.le_of_ble_eq_true rfl) ?_
  intro p e s m9 below meth c9 C
  refine v_lv (lv' := [(0, .ref (a (0))), (1, .int (iI (r))), (2, .int (iI (n)))]) rfl ?_
  refine v_iload_n C 1 dX5_row_0 rfl ?_
  refine v_cS_i C (As := [.int (iI (r))]) (rest := []) (c_X5_isRow l D yc t1 t2 A (mw a yc) g r (by omega)) (va_cwS 1 C.hts gX5_row_X5_isRow rfl rfl rfl (by decide +kernel) ⟨by decide, by decide⟩) rfl rfl (Nat.le_of_ble_eq_true rfl) dX5_row_1 ?_
  intro r9 g9 h9
  rw [h9.1, h9.2]
  clear h9 g9 r9
  try dsimp only
  refine v_ifb_eq (tgt := 13) C dX5_row_4 (by decide) (fun c4 => ?_) (fun c4 => ?_)
  · skip
    refine v_iconst C dX5_row_13 ?_
    exact v_ret_i C rfl dX5_row_14 ⟨(by repeat (first | rfl | rw [if_pos (by omega)] | rw [if_neg (by omega)])), (by repeat (first | rfl | rw [if_pos (by omega)] | rw [if_neg (by omega)]))⟩
  · skip
    refine v_iload_n C 2 dX5_row_7 rfl ?_
    refine v_bipush C dX5_row_8 (by decide) ?_
    refine v_icmp_le (tgt := 15) C dX5_row_10 (by decide) (by omega) (by omega) (fun c10 => ?_) (fun c10 => ?_)
    · skip
      refine v_iload_n C 2 dX5_row_15 rfl ?_
      refine v_if_ge (tgt := 25) C dX5_row_16 (by decide) (by omega) (fun c16 => ?_) (fun c16 => ?_)
      · skip
        refine v_aload_n C 0 dX5_row_25 rfl ?_
        refine v_iload_n C 1 dX5_row_26 rfl ?_
        refine v_iload_n C 2 dX5_row_27 rfl ?_
        refine v_cV_v C (As := [.int (iI (r)), .int (iI (n))]) (rest := []) (c_X5_lays l D yc t1 t2 a A g r n (by omega)) (cwV 2 C.hts gX5_row_X5_lays rfl rfl rfl (by decide +kernel) ⟨by decide, by decide⟩) (fun H hP => va_recv C.hK hP (ci := 5) (q0 := (0 : Int).toNat) rfl (wo_is (by omega) (by omega) ct_mod)) rfl rfl (Nat.le_of_ble_eq_true rfl) dX5_row_28 ?_
        intro g9 h9
        rw [h9]
        clear h9 g9
        try dsimp only
        refine v_iload_n C 2 dX5_row_31 rfl ?_
        exact v_ret_i C rfl dX5_row_32 ⟨(by repeat (first | rfl | rw [if_pos (by omega)] | rw [if_neg (by omega)])), (by repeat (first | rfl | rw [if_pos (by omega)] | rw [if_neg (by omega)]))⟩
      · skip
        refine v_aload_n C 0 dX5_row_19 rfl ?_
        refine v_iconst C dX5_row_20 ?_
        refine v_cV_i C (As := [.int (iI (5))]) (rest := []) (c_X5_finds l D yc t1 t2 a A g 5 (by omega)) (cwV 1 C.hts gX5_row_X5_finds rfl rfl rfl (by decide +kernel) ⟨by decide, by decide⟩) (fun H hP => va_recv C.hK hP (ci := 5) (q0 := (0 : Int).toNat) rfl (wo_is (by omega) (by omega) ct_mod)) rfl rfl (Nat.le_of_ble_eq_true rfl) dX5_row_21 ?_
        intro r9 g9 h9
        rw [h9.1, h9.2]
        clear h9 g9 r9
        try dsimp only
        exact v_ret_i C rfl dX5_row_24 ⟨(by repeat (first | rfl | rw [if_pos (by omega)] | rw [if_neg (by omega)])), (by repeat (first | rfl | rw [if_pos (by omega)] | rw [if_neg (by omega)]))⟩
    · skip
      refine v_iconst C dX5_row_13 ?_
      exact v_ret_i C rfl dX5_row_14 ⟨(by repeat (first | rfl | rw [if_pos (by omega)] | rw [if_neg (by omega)])), (by repeat (first | rfl | rw [if_pos (by omega)] | rw [if_neg (by omega)]))⟩

set_option maxRecDepth 100000 in
set_option maxHeartbeats 4000000 in
theorem c_X5_at (l : Launch) (D : va_G) (yc : Nat → ClassId) (t1 t2 : Nat) (a : Int → Nat) (A : Nat → Prop) (g : Mm) (r i : Int) (hr : R32 r) (hi : R32 i) (HM : MI g) : Ci l yX5_at wsX5_at { frames := 2, cells := 0, slots := 0, locals := 42 } D yc t1 t2 A (mw a yc) [.ref (a (0)), .int (iI (r)), .int (iI (i))] g (fun r9 g' => r9 = (iI (if r < 0 ∨ 5 < r then -1 else if g 1 r < 0 then -3 else if i < 0 ∨ g 1 r ≤ i then -3 else 1)) ∧ g' = (if r < 0 ∨ 5 < r then g else if g 1 r < 0 then fnM g 1 else if i < 0 ∨ g 1 r ≤ i then fnM g 2 else mu g 0 11 (g 2 (40 * r + i)))) := by
  refine start_i (cc := cX5_at) (nL := 3) (ret := (some .int)) (own := RX5) (by decide +kernel) rfl rfl (Nat.le_of_ble_eq_true rfl) ?_
  intro p e s m9 below meth c9 C
  have wf7 : Cond.fieldLink RX5 7 (TX5 0).1 (TX5 0).2.1 (TX5 0).2.2.1 ∈ wsX5_at := by decide +kernel
  have hinX5 : ∀ w ∈ u_ws RX5 TX5 17, w ∈ wsX5_at := by decide +kernel
  have wf13 : Cond.fieldLink RX5 13 (TX5 1).1 (TX5 1).2.1 (TX5 1).2.2.1 ∈ wsX5_at := by decide +kernel
  refine v_lv (lv' := [(0, .ref (a (0))), (1, .int (iI (r))), (2, .int (iI (i)))]) rfl ?_
  refine v_iload_n C 1 dX5_at_0 rfl ?_
  refine v_cS_i C (As := [.int (iI (r))]) (rest := []) (c_X5_isRow l D yc t1 t2 A (mw a yc) g r (by omega)) (va_cwS 1 C.hts gX5_at_X5_isRow rfl rfl rfl (by decide +kernel) ⟨by decide, by decide⟩) rfl rfl (Nat.le_of_ble_eq_true rfl) dX5_at_1 ?_
  intro r9 g9 h9
  rw [h9.1, h9.2]
  clear h9 g9 r9
  try dsimp only
  refine v_ifb_ne (tgt := 9) C dX5_at_4 (by decide) (fun c4 => ?_) (fun c4 => ?_)
  · skip
    have hs := HM.sz (r := r) (by omega) (by omega)
    refine v_aload_n C 0 dX5_at_9 rfl ?_
    refine v_getf C (by omega) (by omega) ct_mod rfl 0 (by decide) wf7 hinX5 rfl dX5_at_10 ?_
    refine v_iload_n C 1 dX5_at_13 rfl ?_
    refine v_iaload C (by omega) (by omega) ct_msizes (by omega) (by omega) (by decide) dX5_at_14 ?_
    refine v_if_ge (tgt := 24) C dX5_at_15 (by decide) (by omega) (fun c15 => ?_) (fun c15 => ?_)
    · skip
      refine v_iload_n C 2 dX5_at_24 rfl ?_
      refine v_iconst C dX5_at_25 ?_
      refine v_aload_n C 0 dX5_at_26 rfl ?_
      refine v_getf C (by omega) (by omega) ct_mod rfl 0 (by decide) wf7 hinX5 rfl dX5_at_27 ?_
      refine v_iload_n C 1 dX5_at_30 rfl ?_
      refine v_iaload C (by omega) (by omega) ct_msizes (by omega) (by omega) (by decide) dX5_at_31 ?_
      refine v_iconst C dX5_at_32 ?_
      refine v_isub C dX5_at_33 ?_
      refine v_cS_i C (As := [.int (iI (i)), .int (iI (0)), .int (iI ((g (1) (r)) - 1))]) (rest := []) (c_X5_in l D yc t1 t2 A (mw a yc) g i 0 ((g (1) (r)) - 1) (by omega) (by omega) (by omega)) (va_cwS 3 C.hts gX5_at_X5_in rfl rfl rfl (by decide +kernel) ⟨by decide, by decide⟩) rfl rfl (Nat.le_of_ble_eq_true rfl) dX5_at_34 ?_
      intro r9 g9 h9
      rw [h9.1, h9.2]
      clear h9 g9 r9
      try dsimp only
      refine v_ifb_eq (tgt := 59) C dX5_at_37 (by decide) (fun c37 => ?_) (fun c37 => ?_)
      · skip
        refine v_aload_n C 0 dX5_at_59 rfl ?_
        refine v_iconst C dX5_at_60 ?_
        refine v_cV_i C (As := [.int (iI (2))]) (rest := []) (c_X5_finds l D yc t1 t2 a A g 2 (by omega)) (cwV 1 C.hts gX5_at_X5_finds rfl rfl rfl (by decide +kernel) ⟨by decide, by decide⟩) (fun H hP => va_recv C.hK hP (ci := 5) (q0 := (0 : Int).toNat) rfl (wo_is (by omega) (by omega) ct_mod)) rfl rfl (Nat.le_of_ble_eq_true rfl) dX5_at_61 ?_
        intro r9 g9 h9
        rw [h9.1, h9.2]
        clear h9 g9 r9
        try dsimp only
        exact v_ret_i C rfl dX5_at_64 ⟨(by repeat (first | rfl | rw [if_pos (by omega)] | rw [if_neg (by omega)])), (by repeat (first | rfl | rw [if_pos (by omega)] | rw [if_neg (by omega)]))⟩
      · skip
        refine v_aload_n C 0 dX5_at_40 rfl ?_
        refine v_iconst C dX5_at_41 ?_
        refine v_aload_n C 0 dX5_at_42 rfl ?_
        refine v_getf C (by omega) (by omega) ct_mod rfl 1 (by decide) wf13 hinX5 rfl dX5_at_43 ?_
        refine v_bipush C dX5_at_46 (by decide) ?_
        refine v_iload_n C 1 dX5_at_48 rfl ?_
        refine v_imul C dX5_at_49 ?_
        refine v_iload_n C 2 dX5_at_50 rfl ?_
        refine v_iadd C dX5_at_51 ?_
        refine v_iaload C (by omega) (by omega) ct_mitems (by omega) (by omega) (by decide) dX5_at_52 ?_
        refine v_cV_i C (As := [.int (iI (1)), .int (iI (g (2) ((40 * r) + i)))]) (rest := []) (c_X5_tells l D yc t1 t2 a A g 1 (g (2) ((40 * r) + i))) (cwV 2 C.hts gX5_at_X5_tells rfl rfl rfl (by decide +kernel) ⟨by decide, by decide⟩) (fun H hP => va_recv C.hK hP (ci := 5) (q0 := (0 : Int).toNat) rfl (wo_is (by omega) (by omega) ct_mod)) rfl rfl (Nat.le_of_ble_eq_true rfl) dX5_at_53 ?_
        intro r9 g9 h9
        rw [h9.1, h9.2]
        clear h9 g9 r9
        try dsimp only
        refine v_goto (tgt := 64) C dX5_at_56 (by decide) ?_
        exact v_ret_i C rfl dX5_at_64 ⟨(by repeat (first | rfl | rw [if_pos (by omega)] | rw [if_neg (by omega)])), (by repeat (first | rfl | rw [if_pos (by omega)] | rw [if_neg (by omega)]))⟩
    · skip
      refine v_aload_n C 0 dX5_at_18 rfl ?_
      refine v_iconst C dX5_at_19 ?_
      refine v_cV_i C (As := [.int (iI (1))]) (rest := []) (c_X5_finds l D yc t1 t2 a A g 1 (by omega)) (cwV 1 C.hts gX5_at_X5_finds rfl rfl rfl (by decide +kernel) ⟨by decide, by decide⟩) (fun H hP => va_recv C.hK hP (ci := 5) (q0 := (0 : Int).toNat) rfl (wo_is (by omega) (by omega) ct_mod)) rfl rfl (Nat.le_of_ble_eq_true rfl) dX5_at_20 ?_
      intro r9 g9 h9
      rw [h9.1, h9.2]
      clear h9 g9 r9
      try dsimp only
      exact v_ret_i C rfl dX5_at_23 ⟨(by repeat (first | rfl | rw [if_pos (by omega)] | rw [if_neg (by omega)])), (by repeat (first | rfl | rw [if_pos (by omega)] | rw [if_neg (by omega)]))⟩
  · skip
    refine v_iconst C dX5_at_7 ?_
    exact v_ret_i C rfl dX5_at_8 ⟨(by repeat (first | rfl | rw [if_pos (by omega)] | rw [if_neg (by omega)])), (by repeat (first | rfl | rw [if_pos (by omega)] | rw [if_neg (by omega)]))⟩

set_option maxRecDepth 100000 in
set_option maxHeartbeats 4000000 in
theorem c_X5_lay (l : Launch) (D : va_G) (yc : Nat → ClassId) (t1 t2 : Nat) (a : Int → Nat) (A : Nat → Prop) (g : Mm) (r i v : Int) (hr : R32 r) (hi : R32 i) (HM : MI g) : Ci l yX5_lay wsX5_lay { frames := 3, cells := 0, slots := 0, locals := 64 } D yc t1 t2 A (mw a yc) [.ref (a (0)), .int (iI (r)), .int (iI (i)), .int (iI (v))] g (fun r9 g' => r9 = (iI (if r < 0 ∨ 5 < r then -1 else if g 1 r < 0 then -3 else if i < 0 ∨ g 1 r ≤ i then -3 else 1)) ∧ g' = (if r < 0 ∨ 5 < r then g else if g 1 r < 0 then fnM g 1 else if i < 0 ∨ g 1 r ≤ i then fnM g 2 else mu (mu g 0 11 (g 2 (40 * r + i))) 2 (40 * r + i) v)) := by
  refine start_i (cc := cX5_lay) (nL := 5) (ret := (some .int)) (own := RX5) (by decide +kernel) rfl rfl (Nat.le_of_ble_eq_true rfl) ?_
  intro p e s m9 below meth c9 C
  have wf13 : Cond.fieldLink RX5 13 (TX5 1).1 (TX5 1).2.1 (TX5 1).2.2.1 ∈ wsX5_lay := by decide +kernel
  have hinX5 : ∀ w ∈ u_ws RX5 TX5 17, w ∈ wsX5_lay := by decide +kernel
  have hs : 0 ≤ r → r < 6 → -1 ≤ g 1 r ∧ g 1 r ≤ 40 := fun a b => HM.sz a b
  refine v_lv (lv' := [(0, .ref (a (0))), (1, .int (iI (r))), (2, .int (iI (i))), (3, .int (iI (v)))]) rfl ?_
  refine v_aload_n C 0 dX5_lay_0 rfl ?_
  refine v_iload_n C 1 dX5_lay_1 rfl ?_
  refine v_iload_n C 2 dX5_lay_2 rfl ?_
  refine v_cV_i C (As := [.int (iI (r)), .int (iI (i))]) (rest := []) (c_X5_at l D yc t1 t2 a A g r i (by omega) (by omega) HM) (cwV 2 C.hts gX5_lay_X5_at rfl rfl rfl (by decide +kernel) ⟨by decide, by decide⟩) (fun H hP => va_recv C.hK hP (ci := 5) (q0 := (0 : Int).toNat) rfl (wo_is (by omega) (by omega) ct_mod)) rfl rfl (Nat.le_of_ble_eq_true rfl) dX5_lay_3 ?_
  intro r9 g9 h9
  rw [h9.1, h9.2]
  clear h9 g9 r9
  try dsimp only
  refine v_istore (lv' := [(4, .int (iI (if r < 0 ∨ 5 < r then -1 else if g 1 r < 0 then -3 else if i < 0 ∨ g 1 r ≤ i then -3 else 1))), (0, .ref (a (0))), (1, .int (iI (r))), (2, .int (iI (i))), (3, .int (iI (v)))]) C dX5_lay_6 (by decide) rfl ?_
  refine v_iload C 0 dX5_lay_8 rfl ?_
  refine v_iconst C dX5_lay_10 ?_
  refine v_icmp_ne (tgt := 26) C dX5_lay_11 (by decide) (by (repeat (first | split)) <;> omega) (by (repeat (first | split)) <;> omega) (fun c11 => ?_) (fun c11 => ?_)
  · skip
    refine v_iload C 0 dX5_lay_26 rfl ?_
    exact v_ret_i C rfl dX5_lay_28 ⟨rfl, (by (repeat' split at c11) <;> first | (exfalso; omega) | (repeat (first | rfl | rw [if_pos (by omega)] | rw [if_neg (by omega)])))⟩
  · skip
    refine v_aload_n C 1 dX5_lay_14 rfl ?_
    refine v_getf C (by omega) (by omega) ct_mod rfl 1 (by decide) wf13 hinX5 rfl dX5_lay_15 ?_
    refine v_bipush C dX5_lay_18 (by decide) ?_
    refine v_iload_n C 2 dX5_lay_20 rfl ?_
    refine v_imul C dX5_lay_21 ?_
    refine v_iload_n C 3 dX5_lay_22 rfl ?_
    refine v_iadd C dX5_lay_23 ?_
    refine v_iload_n C 4 dX5_lay_24 rfl ?_
    refine v_iastore C (ctm_L a yc) (by omega) (by omega) ct_mitems (ct_mitems).symm (by (repeat (first | split at c11)) <;> omega) (by (repeat (first | split at c11)) <;> omega) (by decide) dX5_lay_25 ?_
    refine v_iload C 0 dX5_lay_26 rfl ?_
    exact v_ret_i C rfl dX5_lay_28 ⟨rfl, (by (repeat' split at c11) <;> first | (exfalso; omega) | (repeat (first | rfl | rw [if_pos (by omega)] | rw [if_neg (by omega)])))⟩

set_option maxRecDepth 100000 in
set_option maxHeartbeats 4000000 in
theorem c_X5_tear (l : Launch) (D : va_G) (yc : Nat → ClassId) (t1 t2 : Nat) (a : Int → Nat) (A : Nat → Prop) (g : Mm) (r : Int) (hr : R32 r) (HM : MI g) : Ci l yX5_tear wsX5_tear { frames := 2, cells := 0, slots := 0, locals := 42 } D yc t1 t2 A (mw a yc) [.ref (a (0)), .int (iI (r))] g (fun r9 g' => r9 = (iI (if r < 0 ∨ 5 < r then -1 else if g 1 r < 0 then -3 else 1)) ∧ g' = (if r < 0 ∨ 5 < r then g else if g 1 r < 0 then fnM g 1 else mu g 1 r (-1))) := by
  refine start_i (cc := cX5_tear) (nL := 2) (ret := (some .int)) (own := RX5) (by decide +kernel) rfl rfl (Nat.le_of_ble_eq_true rfl) ?_
  intro p e s m9 below meth c9 C
  have wf7 : Cond.fieldLink RX5 7 (TX5 0).1 (TX5 0).2.1 (TX5 0).2.2.1 ∈ wsX5_tear := by decide +kernel
  have hinX5 : ∀ w ∈ u_ws RX5 TX5 17, w ∈ wsX5_tear := by decide +kernel
  refine v_lv (lv' := [(0, .ref (a (0))), (1, .int (iI (r)))]) rfl ?_
  refine v_iload_n C 1 dX5_tear_0 rfl ?_
  refine v_cS_i C (As := [.int (iI (r))]) (rest := []) (c_X5_isRow l D yc t1 t2 A (mw a yc) g r (by omega)) (va_cwS 1 C.hts gX5_tear_X5_isRow rfl rfl rfl (by decide +kernel) ⟨by decide, by decide⟩) rfl rfl (Nat.le_of_ble_eq_true rfl) dX5_tear_1 ?_
  intro r9 g9 h9
  rw [h9.1, h9.2]
  clear h9 g9 r9
  try dsimp only
  refine v_ifb_ne (tgt := 9) C dX5_tear_4 (by decide) (fun c4 => ?_) (fun c4 => ?_)
  · skip
    have hs := HM.sz (r := r) (by omega) (by omega)
    refine v_aload_n C 0 dX5_tear_9 rfl ?_
    refine v_getf C (by omega) (by omega) ct_mod rfl 0 (by decide) wf7 hinX5 rfl dX5_tear_10 ?_
    refine v_iload_n C 1 dX5_tear_13 rfl ?_
    refine v_iaload C (by omega) (by omega) ct_msizes (by omega) (by omega) (by decide) dX5_tear_14 ?_
    refine v_if_ge (tgt := 24) C dX5_tear_15 (by decide) (by omega) (fun c15 => ?_) (fun c15 => ?_)
    · skip
      refine v_aload_n C 0 dX5_tear_24 rfl ?_
      refine v_getf C (by omega) (by omega) ct_mod rfl 0 (by decide) wf7 hinX5 rfl dX5_tear_25 ?_
      refine v_iload_n C 1 dX5_tear_28 rfl ?_
      refine v_iconst C dX5_tear_29 ?_
      refine v_iastore C (ctm_L a yc) (by omega) (by omega) ct_msizes (ct_msizes).symm (by omega) (by omega) (by decide) dX5_tear_30 ?_
      refine v_iconst C dX5_tear_31 ?_
      exact v_ret_i C rfl dX5_tear_32 ⟨(by repeat (first | rfl | rw [if_pos (by omega)] | rw [if_neg (by omega)])), (by repeat (first | rfl | rw [if_pos (by omega)] | rw [if_neg (by omega)]))⟩
    · skip
      refine v_aload_n C 0 dX5_tear_18 rfl ?_
      refine v_iconst C dX5_tear_19 ?_
      refine v_cV_i C (As := [.int (iI (1))]) (rest := []) (c_X5_finds l D yc t1 t2 a A g 1 (by omega)) (cwV 1 C.hts gX5_tear_X5_finds rfl rfl rfl (by decide +kernel) ⟨by decide, by decide⟩) (fun H hP => va_recv C.hK hP (ci := 5) (q0 := (0 : Int).toNat) rfl (wo_is (by omega) (by omega) ct_mod)) rfl rfl (Nat.le_of_ble_eq_true rfl) dX5_tear_20 ?_
      intro r9 g9 h9
      rw [h9.1, h9.2]
      clear h9 g9 r9
      try dsimp only
      exact v_ret_i C rfl dX5_tear_23 ⟨(by repeat (first | rfl | rw [if_pos (by omega)] | rw [if_neg (by omega)])), (by repeat (first | rfl | rw [if_pos (by omega)] | rw [if_neg (by omega)]))⟩
  · skip
    refine v_iconst C dX5_tear_7 ?_
    exact v_ret_i C rfl dX5_tear_8 ⟨(by repeat (first | rfl | rw [if_pos (by omega)] | rw [if_neg (by omega)])), (by repeat (first | rfl | rw [if_pos (by omega)] | rw [if_neg (by omega)]))⟩

set_option maxRecDepth 100000 in
set_option maxHeartbeats 4000000 in
theorem c_X5_copy (l : Launch) (D : va_G) (yc : Nat → ClassId) (t1 t2 : Nat) (a : Int → Nat) (A : Nat → Prop) (g : Mm) (r i u j n : Int) (hr : R32 r) (hi : R32 i) (hu : R32 u) (hj : R32 j) (hn : R32 n) (HM : MI g) : Ci l yX5_copy wsX5_copy { frames := 2, cells := 0, slots := 0, locals := 42 } D yc t1 t2 A (mw a yc) [.ref (a (0)), .int (iI (r)), .int (iI (i)), .int (iI (u)), .int (iI (j)), .int (iI (n))] g (fun r9 g' => r9 = (iI (if (r < 0 ∨ 5 < r) ∨ (u < 0 ∨ 5 < u) then -1 else if n < 0 then -3 else if g 1 r < 0 ∨ g 1 u < 0 then -3 else if i < 0 ∨ j < 0 ∨ g 1 r < i + n ∨ g 1 u < j + n then -3 else 1)) ∧ g' = (if (r < 0 ∨ 5 < r) ∨ (u < 0 ∨ 5 < u) then g else if n < 0 then fnM g 5 else if g 1 r < 0 ∨ g 1 u < 0 then fnM g 1 else if i < 0 ∨ j < 0 ∨ g 1 r < i + n ∨ g 1 u < j + n then fnM g 2 else (cpf (cpf g 3 0 n (fun x => g 2 (40 * r + i + x))) 2 (40 * u + j) n (fun x => g 2 (40 * r + i + x))))) := by
  refine start_i (cc := cX5_copy) (nL := 7) (ret := (some .int)) (own := RX5) (by decide +kernel) rfl rfl (Nat.le_of_ble_eq_true rfl) ?_
  intro p e s m9 below meth c9 C
  have wf7 : Cond.fieldLink RX5 7 (TX5 0).1 (TX5 0).2.1 (TX5 0).2.2.1 ∈ wsX5_copy := by decide +kernel
  have hinX5 : ∀ w ∈ u_ws RX5 TX5 17, w ∈ wsX5_copy := by decide +kernel
  have wf13 : Cond.fieldLink RX5 13 (TX5 1).1 (TX5 1).2.1 (TX5 1).2.2.1 ∈ wsX5_copy := by decide +kernel
  have wf16 : Cond.fieldLink RX5 16 (TX5 2).1 (TX5 2).2.1 (TX5 2).2.2.1 ∈ wsX5_copy := by decide +kernel
  refine v_lv (lv' := [(0, .ref (a (0))), (1, .int (iI (r))), (2, .int (iI (i))), (3, .int (iI (u))), (4, .int (iI (j))), (5, .int (iI (n)))]) rfl ?_
  refine v_iload_n C 1 dX5_copy_0 rfl ?_
  refine v_cS_i C (As := [.int (iI (r))]) (rest := []) (c_X5_isRow l D yc t1 t2 A (mw a yc) g r (by omega)) (va_cwS 1 C.hts gX5_copy_X5_isRow rfl rfl rfl (by decide +kernel) ⟨by decide, by decide⟩) rfl rfl (Nat.le_of_ble_eq_true rfl) dX5_copy_1 ?_
  intro r9 g9 h9
  rw [h9.1, h9.2]
  clear h9 g9 r9
  try dsimp only
  refine v_ifb_eq (tgt := 14) C dX5_copy_4 (by decide) (fun c4 => ?_) (fun c4 => ?_)
  · skip
    refine v_iconst C dX5_copy_14 ?_
    exact v_ret_i C rfl dX5_copy_15 ⟨(by repeat (first | rfl | rw [if_pos (by omega)] | rw [if_neg (by omega)])), (by repeat (first | rfl | rw [if_pos (by omega)] | rw [if_neg (by omega)]))⟩
  · skip
    refine v_iload_n C 3 dX5_copy_7 rfl ?_
    refine v_cS_i C (As := [.int (iI (u))]) (rest := []) (c_X5_isRow l D yc t1 t2 A (mw a yc) g u (by omega)) (va_cwS 1 C.hts gX5_copy_X5_isRow rfl rfl rfl (by decide +kernel) ⟨by decide, by decide⟩) rfl rfl (Nat.le_of_ble_eq_true rfl) dX5_copy_8 ?_
    intro r9 g9 h9
    rw [h9.1, h9.2]
    clear h9 g9 r9
    try dsimp only
    refine v_ifb_ne (tgt := 16) C dX5_copy_11 (by decide) (fun c11 => ?_) (fun c11 => ?_)
    · skip
      have hs := HM.sz (r := r) (by omega) (by omega)
      have hs2 := HM.sz (r := u) (by omega) (by omega)
      refine v_iload C 5 dX5_copy_16 rfl ?_
      refine v_if_ge (tgt := 27) C dX5_copy_18 (by decide) (by omega) (fun c18 => ?_) (fun c18 => ?_)
      · skip
        refine v_aload_n C 0 dX5_copy_27 rfl ?_
        refine v_getf C (by omega) (by omega) ct_mod rfl 0 (by decide) wf7 hinX5 rfl dX5_copy_28 ?_
        refine v_iload_n C 1 dX5_copy_31 rfl ?_
        refine v_iaload C (by omega) (by omega) ct_msizes (by omega) (by omega) (by decide) dX5_copy_32 ?_
        refine v_if_lt (tgt := 45) C dX5_copy_33 (by decide) (by omega) (fun c33 => ?_) (fun c33 => ?_)
        · skip
          refine v_aload_n C 0 dX5_copy_45 rfl ?_
          refine v_iconst C dX5_copy_46 ?_
          refine v_cV_i C (As := [.int (iI (1))]) (rest := []) (c_X5_finds l D yc t1 t2 a A g 1 (by omega)) (cwV 1 C.hts gX5_copy_X5_finds rfl rfl rfl (by decide +kernel) ⟨by decide, by decide⟩) (fun H hP => va_recv C.hK hP (ci := 5) (q0 := (0 : Int).toNat) rfl (wo_is (by omega) (by omega) ct_mod)) rfl rfl (Nat.le_of_ble_eq_true rfl) dX5_copy_47 ?_
          intro r9 g9 h9
          rw [h9.1, h9.2]
          clear h9 g9 r9
          try dsimp only
          exact v_ret_i C rfl dX5_copy_50 ⟨(by repeat (first | rfl | rw [if_pos (by omega)] | rw [if_neg (by omega)])), (by repeat (first | rfl | rw [if_pos (by omega)] | rw [if_neg (by omega)]))⟩
        · skip
          refine v_aload_n C 0 dX5_copy_36 rfl ?_
          refine v_getf C (by omega) (by omega) ct_mod rfl 0 (by decide) wf7 hinX5 rfl dX5_copy_37 ?_
          refine v_iload_n C 3 dX5_copy_40 rfl ?_
          refine v_iaload C (by omega) (by omega) ct_msizes (by omega) (by omega) (by decide) dX5_copy_41 ?_
          refine v_if_ge (tgt := 51) C dX5_copy_42 (by decide) (by omega) (fun c42 => ?_) (fun c42 => ?_)
          · skip
            refine v_iload_n C 2 dX5_copy_51 rfl ?_
            refine v_if_lt (tgt := 95) C dX5_copy_52 (by decide) (by omega) (fun c52 => ?_) (fun c52 => ?_)
            · skip
              refine v_aload_n C 0 dX5_copy_95 rfl ?_
              refine v_iconst C dX5_copy_96 ?_
              refine v_cV_i C (As := [.int (iI (2))]) (rest := []) (c_X5_finds l D yc t1 t2 a A g 2 (by omega)) (cwV 1 C.hts gX5_copy_X5_finds rfl rfl rfl (by decide +kernel) ⟨by decide, by decide⟩) (fun H hP => va_recv C.hK hP (ci := 5) (q0 := (0 : Int).toNat) rfl (wo_is (by omega) (by omega) ct_mod)) rfl rfl (Nat.le_of_ble_eq_true rfl) dX5_copy_97 ?_
              intro r9 g9 h9
              rw [h9.1, h9.2]
              clear h9 g9 r9
              try dsimp only
              exact v_ret_i C rfl dX5_copy_100 ⟨(by repeat (first | rfl | rw [if_pos (by omega)] | rw [if_neg (by omega)])), (by repeat (first | rfl | rw [if_pos (by omega)] | rw [if_neg (by omega)]))⟩
            · skip
              refine v_iload C 4 dX5_copy_55 rfl ?_
              refine v_if_lt (tgt := 95) C dX5_copy_57 (by decide) (by omega) (fun c57 => ?_) (fun c57 => ?_)
              · skip
                refine v_aload_n C 0 dX5_copy_95 rfl ?_
                refine v_iconst C dX5_copy_96 ?_
                refine v_cV_i C (As := [.int (iI (2))]) (rest := []) (c_X5_finds l D yc t1 t2 a A g 2 (by omega)) (cwV 1 C.hts gX5_copy_X5_finds rfl rfl rfl (by decide +kernel) ⟨by decide, by decide⟩) (fun H hP => va_recv C.hK hP (ci := 5) (q0 := (0 : Int).toNat) rfl (wo_is (by omega) (by omega) ct_mod)) rfl rfl (Nat.le_of_ble_eq_true rfl) dX5_copy_97 ?_
                intro r9 g9 h9
                rw [h9.1, h9.2]
                clear h9 g9 r9
                try dsimp only
                exact v_ret_i C rfl dX5_copy_100 ⟨(by repeat (first | rfl | rw [if_pos (by omega)] | rw [if_neg (by omega)])), (by repeat (first | rfl | rw [if_pos (by omega)] | rw [if_neg (by omega)]))⟩
              · skip
                refine v_iload_n C 2 dX5_copy_60 rfl ?_
                refine v_i2l C dX5_copy_61 (by omega) ?_
                refine v_iload C 5 dX5_copy_62 rfl ?_
                refine v_i2l C dX5_copy_64 (by omega) ?_
                refine v_ladd C dX5_copy_65 ?_
                refine v_aload_n C 0 dX5_copy_66 rfl ?_
                refine v_getf C (by omega) (by omega) ct_mod rfl 0 (by decide) wf7 hinX5 rfl dX5_copy_67 ?_
                refine v_iload_n C 1 dX5_copy_70 rfl ?_
                refine v_iaload C (by omega) (by omega) ct_msizes (by omega) (by omega) (by decide) dX5_copy_71 ?_
                refine v_i2l C dX5_copy_72 (by omega) ?_
                refine v_lcmp C (by omega) (by omega) dX5_copy_73 (fun h_1 => ?_) (fun h_2 => ?_) (fun h_3 => ?_)
                · skip
                  refine v_if_gt (tgt := 95) C dX5_copy_74 (by decide) (by decide) (fun h9 => absurd h9 (by decide)) (fun _ => ?_)
                  refine v_iload C 4 dX5_copy_77 rfl ?_
                  refine v_i2l C dX5_copy_79 (by omega) ?_
                  refine v_iload C 5 dX5_copy_80 rfl ?_
                  refine v_i2l C dX5_copy_82 (by omega) ?_
                  refine v_ladd C dX5_copy_83 ?_
                  refine v_aload_n C 0 dX5_copy_84 rfl ?_
                  refine v_getf C (by omega) (by omega) ct_mod rfl 0 (by decide) wf7 hinX5 rfl dX5_copy_85 ?_
                  refine v_iload_n C 3 dX5_copy_88 rfl ?_
                  refine v_iaload C (by omega) (by omega) ct_msizes (by omega) (by omega) (by decide) dX5_copy_89 ?_
                  refine v_i2l C dX5_copy_90 (by omega) ?_
                  refine v_lcmp C (by omega) (by omega) dX5_copy_91 (fun h_4 => ?_) (fun h_5 => ?_) (fun h_6 => ?_)
                  · skip
                    refine v_if_le (tgt := 101) C dX5_copy_92 (by decide) (by decide) (fun _ => ?_) (fun h9 => absurd h9 (by decide))
                    refine v_iconst C dX5_copy_101 ?_
                    refine v_istore (lv' := [(6, .int (iI (0))), (0, .ref (a (0))), (1, .int (iI (r))), (2, .int (iI (i))), (3, .int (iI (u))), (4, .int (iI (j))), (5, .int (iI (n)))]) C dX5_copy_102 (by decide) rfl ?_
                    refine v_g (g' := (cpf g 3 0 0 (fun x => g 2 (40 * r + i + x)))) (by rw [cpf_0]) ?_
                    refine v_loop1 (fun (t : Int) => (n - t).toNat) (fun (t : Int) => 0 ≤ t ∧ t ≤ n) (fun (t : Int) => [(6, .int (iI (t))), (0, .ref (a (0))), (1, .int (iI (r))), (2, .int (iI (i))), (3, .int (iI (u))), (4, .int (iI (j))), (5, .int (iI (n)))]) (fun (t : Int) => (cpf g 3 0 t (fun x => g 2 (40 * r + i + x)))) ?_ 0 (by omega)
                    intro t hI104 ih104
                    try dsimp only at ih104 ⊢
                    refine v_iload C 0 dX5_copy_104 rfl ?_
                    refine v_iload C 6 dX5_copy_106 rfl ?_
                    refine v_icmp_ge (tgt := 138) C dX5_copy_108 (by decide) (by omega) (by omega) (fun c108 => ?_) (fun c108 => ?_)
                    · skip
                      refine v_iconst C dX5_copy_138 ?_
                      refine v_istore (lv' := [(6, .int (iI (0))), (0, .ref (a (0))), (1, .int (iI (r))), (2, .int (iI (i))), (3, .int (iI (u))), (4, .int (iI (j))), (5, .int (iI (n)))]) C dX5_copy_139 (by decide) rfl ?_
                      refine v_g (g' := (cpf (cpf g 3 0 n (fun x => g 2 (40 * r + i + x))) 2 (40 * u + j) 0 (fun x => g 2 (40 * r + i + x)))) (by rw [cpf_0, show t = n by omega]) ?_
                      refine v_loop1 (fun (t : Int) => (n - t).toNat) (fun (t : Int) => 0 ≤ t ∧ t ≤ n) (fun (t : Int) => [(6, .int (iI (t))), (0, .ref (a (0))), (1, .int (iI (r))), (2, .int (iI (i))), (3, .int (iI (u))), (4, .int (iI (j))), (5, .int (iI (n)))]) (fun (t : Int) => (cpf (cpf g 3 0 n (fun x => g 2 (40 * r + i + x))) 2 (40 * u + j) t (fun x => g 2 (40 * r + i + x)))) ?_ 0 (by omega)
                      intro t hI141 ih141
                      try dsimp only at ih141 ⊢
                      refine v_iload C 0 dX5_copy_141 rfl ?_
                      refine v_iload C 6 dX5_copy_143 rfl ?_
                      refine v_icmp_ge (tgt := 176) C dX5_copy_145 (by decide) (by omega) (by omega) (fun c145 => ?_) (fun c145 => ?_)
                      · skip
                        refine v_iconst C dX5_copy_176 ?_
                        exact v_ret_i C rfl dX5_copy_177 ⟨(by repeat (first | rfl | rw [if_pos (by omega)] | rw [if_neg (by omega)])), (by rw [show t = n by omega]; repeat (first | rfl | rw [if_pos (by omega)] | rw [if_neg (by omega)]))⟩
                      · skip
                        refine v_aload_n C 1 dX5_copy_148 rfl ?_
                        refine v_getf C (by omega) (by omega) ct_mod rfl 1 (by decide) wf13 hinX5 rfl dX5_copy_149 ?_
                        refine v_bipush C dX5_copy_152 (by decide) ?_
                        refine v_iload_n C 4 dX5_copy_154 rfl ?_
                        refine v_imul C dX5_copy_155 ?_
                        refine v_iload C 5 dX5_copy_156 rfl ?_
                        refine v_iadd C dX5_copy_158 ?_
                        refine v_iload C 0 dX5_copy_159 rfl ?_
                        refine v_iadd C dX5_copy_161 ?_
                        refine v_aload_n C 1 dX5_copy_162 rfl ?_
                        refine v_getf C (by omega) (by omega) ct_mod rfl 2 (by decide) wf16 hinX5 rfl dX5_copy_163 ?_
                        refine v_iload C 0 dX5_copy_166 rfl ?_
                        refine v_iaload C (by omega) (by omega) ct_mspare (by omega) (by omega) (by decide) dX5_copy_168 ?_
                        refine v_st (st' := [.int (iI (g 2 (40 * r + i + t))), .int (iI (((40 * u) + j) + t)), .ref (a (2))]) (by rw [cpf_o (by decide)]; unfold cpf; rw [if_pos ⟨rfl, by omega, by omega⟩, Int.sub_zero]) ?_
                        refine v_iastore C (ctm_L a yc) (by omega) (by omega) ct_mitems (ct_mitems).symm (by omega) (by omega) (by decide) dX5_copy_169 ?_
                        refine v_iinc (z' := t + 1) (lv' := [(6, .int (iI (t + 1))), (0, .ref (a (0))), (1, .int (iI (r))), (2, .int (iI (i))), (3, .int (iI (u))), (4, .int (iI (j))), (5, .int (iI (n)))]) C 0 dX5_copy_170 rfl (by omega) (by decide) rfl ?_
                        refine v_goto (tgt := 141) C dX5_copy_173 (by decide) ?_
                        exact v_g (by rw [← cpf_s (by omega)]) (ih141 (t + 1) (by omega) (by omega))
                    · skip
                      refine v_aload_n C 1 dX5_copy_111 rfl ?_
                      refine v_getf C (by omega) (by omega) ct_mod rfl 2 (by decide) wf16 hinX5 rfl dX5_copy_112 ?_
                      refine v_iload C 0 dX5_copy_115 rfl ?_
                      refine v_aload_n C 1 dX5_copy_117 rfl ?_
                      refine v_getf C (by omega) (by omega) ct_mod rfl 1 (by decide) wf13 hinX5 rfl dX5_copy_118 ?_
                      refine v_bipush C dX5_copy_121 (by decide) ?_
                      refine v_iload_n C 2 dX5_copy_123 rfl ?_
                      refine v_imul C dX5_copy_124 ?_
                      refine v_iload_n C 3 dX5_copy_125 rfl ?_
                      refine v_iadd C dX5_copy_126 ?_
                      refine v_iload C 0 dX5_copy_127 rfl ?_
                      refine v_iadd C dX5_copy_129 ?_
                      refine v_iaload C (by omega) (by omega) ct_mitems (by omega) (by omega) (by decide) dX5_copy_130 ?_
                      refine v_st (st' := [.int (iI (g 2 (40 * r + i + t))), .int (iI (t)), .ref (a (3))]) (by rw [cpf_o (by decide)]) ?_
                      refine v_iastore C (ctm_L a yc) (by omega) (by omega) ct_mspare (ct_mspare).symm (by omega) (by omega) (by decide) dX5_copy_131 ?_
                      refine v_iinc (z' := t + 1) (lv' := [(6, .int (iI (t + 1))), (0, .ref (a (0))), (1, .int (iI (r))), (2, .int (iI (i))), (3, .int (iI (u))), (4, .int (iI (j))), (5, .int (iI (n)))]) C 0 dX5_copy_132 rfl (by omega) (by decide) rfl ?_
                      refine v_goto (tgt := 104) C dX5_copy_135 (by decide) ?_
                      exact v_g (by rw [← cpf_s (by omega), Int.zero_add]) (ih104 (t + 1) (by omega) (by omega))
                  · skip
                    refine v_if_le (tgt := 101) C dX5_copy_92 (by decide) (by decide) (fun _ => ?_) (fun h9 => absurd h9 (by decide))
                    refine v_iconst C dX5_copy_101 ?_
                    refine v_istore (lv' := [(6, .int (iI (0))), (0, .ref (a (0))), (1, .int (iI (r))), (2, .int (iI (i))), (3, .int (iI (u))), (4, .int (iI (j))), (5, .int (iI (n)))]) C dX5_copy_102 (by decide) rfl ?_
                    refine v_g (g' := (cpf g 3 0 0 (fun x => g 2 (40 * r + i + x)))) (by rw [cpf_0]) ?_
                    refine v_loop1 (fun (t : Int) => (n - t).toNat) (fun (t : Int) => 0 ≤ t ∧ t ≤ n) (fun (t : Int) => [(6, .int (iI (t))), (0, .ref (a (0))), (1, .int (iI (r))), (2, .int (iI (i))), (3, .int (iI (u))), (4, .int (iI (j))), (5, .int (iI (n)))]) (fun (t : Int) => (cpf g 3 0 t (fun x => g 2 (40 * r + i + x)))) ?_ 0 (by omega)
                    intro t hI104 ih104
                    try dsimp only at ih104 ⊢
                    refine v_iload C 0 dX5_copy_104 rfl ?_
                    refine v_iload C 6 dX5_copy_106 rfl ?_
                    refine v_icmp_ge (tgt := 138) C dX5_copy_108 (by decide) (by omega) (by omega) (fun c108 => ?_) (fun c108 => ?_)
                    · skip
                      refine v_iconst C dX5_copy_138 ?_
                      refine v_istore (lv' := [(6, .int (iI (0))), (0, .ref (a (0))), (1, .int (iI (r))), (2, .int (iI (i))), (3, .int (iI (u))), (4, .int (iI (j))), (5, .int (iI (n)))]) C dX5_copy_139 (by decide) rfl ?_
                      refine v_g (g' := (cpf (cpf g 3 0 n (fun x => g 2 (40 * r + i + x))) 2 (40 * u + j) 0 (fun x => g 2 (40 * r + i + x)))) (by rw [cpf_0, show t = n by omega]) ?_
                      refine v_loop1 (fun (t : Int) => (n - t).toNat) (fun (t : Int) => 0 ≤ t ∧ t ≤ n) (fun (t : Int) => [(6, .int (iI (t))), (0, .ref (a (0))), (1, .int (iI (r))), (2, .int (iI (i))), (3, .int (iI (u))), (4, .int (iI (j))), (5, .int (iI (n)))]) (fun (t : Int) => (cpf (cpf g 3 0 n (fun x => g 2 (40 * r + i + x))) 2 (40 * u + j) t (fun x => g 2 (40 * r + i + x)))) ?_ 0 (by omega)
                      intro t hI141 ih141
                      try dsimp only at ih141 ⊢
                      refine v_iload C 0 dX5_copy_141 rfl ?_
                      refine v_iload C 6 dX5_copy_143 rfl ?_
                      refine v_icmp_ge (tgt := 176) C dX5_copy_145 (by decide) (by omega) (by omega) (fun c145 => ?_) (fun c145 => ?_)
                      · skip
                        refine v_iconst C dX5_copy_176 ?_
                        exact v_ret_i C rfl dX5_copy_177 ⟨(by repeat (first | rfl | rw [if_pos (by omega)] | rw [if_neg (by omega)])), (by rw [show t = n by omega]; repeat (first | rfl | rw [if_pos (by omega)] | rw [if_neg (by omega)]))⟩
                      · skip
                        refine v_aload_n C 1 dX5_copy_148 rfl ?_
                        refine v_getf C (by omega) (by omega) ct_mod rfl 1 (by decide) wf13 hinX5 rfl dX5_copy_149 ?_
                        refine v_bipush C dX5_copy_152 (by decide) ?_
                        refine v_iload_n C 4 dX5_copy_154 rfl ?_
                        refine v_imul C dX5_copy_155 ?_
                        refine v_iload C 5 dX5_copy_156 rfl ?_
                        refine v_iadd C dX5_copy_158 ?_
                        refine v_iload C 0 dX5_copy_159 rfl ?_
                        refine v_iadd C dX5_copy_161 ?_
                        refine v_aload_n C 1 dX5_copy_162 rfl ?_
                        refine v_getf C (by omega) (by omega) ct_mod rfl 2 (by decide) wf16 hinX5 rfl dX5_copy_163 ?_
                        refine v_iload C 0 dX5_copy_166 rfl ?_
                        refine v_iaload C (by omega) (by omega) ct_mspare (by omega) (by omega) (by decide) dX5_copy_168 ?_
                        refine v_st (st' := [.int (iI (g 2 (40 * r + i + t))), .int (iI (((40 * u) + j) + t)), .ref (a (2))]) (by rw [cpf_o (by decide)]; unfold cpf; rw [if_pos ⟨rfl, by omega, by omega⟩, Int.sub_zero]) ?_
                        refine v_iastore C (ctm_L a yc) (by omega) (by omega) ct_mitems (ct_mitems).symm (by omega) (by omega) (by decide) dX5_copy_169 ?_
                        refine v_iinc (z' := t + 1) (lv' := [(6, .int (iI (t + 1))), (0, .ref (a (0))), (1, .int (iI (r))), (2, .int (iI (i))), (3, .int (iI (u))), (4, .int (iI (j))), (5, .int (iI (n)))]) C 0 dX5_copy_170 rfl (by omega) (by decide) rfl ?_
                        refine v_goto (tgt := 141) C dX5_copy_173 (by decide) ?_
                        exact v_g (by rw [← cpf_s (by omega)]) (ih141 (t + 1) (by omega) (by omega))
                    · skip
                      refine v_aload_n C 1 dX5_copy_111 rfl ?_
                      refine v_getf C (by omega) (by omega) ct_mod rfl 2 (by decide) wf16 hinX5 rfl dX5_copy_112 ?_
                      refine v_iload C 0 dX5_copy_115 rfl ?_
                      refine v_aload_n C 1 dX5_copy_117 rfl ?_
                      refine v_getf C (by omega) (by omega) ct_mod rfl 1 (by decide) wf13 hinX5 rfl dX5_copy_118 ?_
                      refine v_bipush C dX5_copy_121 (by decide) ?_
                      refine v_iload_n C 2 dX5_copy_123 rfl ?_
                      refine v_imul C dX5_copy_124 ?_
                      refine v_iload_n C 3 dX5_copy_125 rfl ?_
                      refine v_iadd C dX5_copy_126 ?_
                      refine v_iload C 0 dX5_copy_127 rfl ?_
                      refine v_iadd C dX5_copy_129 ?_
                      refine v_iaload C (by omega) (by omega) ct_mitems (by omega) (by omega) (by decide) dX5_copy_130 ?_
                      refine v_st (st' := [.int (iI (g 2 (40 * r + i + t))), .int (iI (t)), .ref (a (3))]) (by rw [cpf_o (by decide)]) ?_
                      refine v_iastore C (ctm_L a yc) (by omega) (by omega) ct_mspare (ct_mspare).symm (by omega) (by omega) (by decide) dX5_copy_131 ?_
                      refine v_iinc (z' := t + 1) (lv' := [(6, .int (iI (t + 1))), (0, .ref (a (0))), (1, .int (iI (r))), (2, .int (iI (i))), (3, .int (iI (u))), (4, .int (iI (j))), (5, .int (iI (n)))]) C 0 dX5_copy_132 rfl (by omega) (by decide) rfl ?_
                      refine v_goto (tgt := 104) C dX5_copy_135 (by decide) ?_
                      exact v_g (by rw [← cpf_s (by omega), Int.zero_add]) (ih104 (t + 1) (by omega) (by omega))
                  · skip
                    refine v_if_le (tgt := 101) C dX5_copy_92 (by decide) (by decide) (fun h9 => absurd h9 (by decide)) (fun _ => ?_)
                    refine v_aload_n C 0 dX5_copy_95 rfl ?_
                    refine v_iconst C dX5_copy_96 ?_
                    refine v_cV_i C (As := [.int (iI (2))]) (rest := []) (c_X5_finds l D yc t1 t2 a A g 2 (by omega)) (cwV 1 C.hts gX5_copy_X5_finds rfl rfl rfl (by decide +kernel) ⟨by decide, by decide⟩) (fun H hP => va_recv C.hK hP (ci := 5) (q0 := (0 : Int).toNat) rfl (wo_is (by omega) (by omega) ct_mod)) rfl rfl (Nat.le_of_ble_eq_true rfl) dX5_copy_97 ?_
                    intro r9 g9 h9
                    rw [h9.1, h9.2]
                    clear h9 g9 r9
                    try dsimp only
                    exact v_ret_i C rfl dX5_copy_100 ⟨(by repeat (first | rfl | rw [if_pos (by omega)] | rw [if_neg (by omega)])), (by repeat (first | rfl | rw [if_pos (by omega)] | rw [if_neg (by omega)]))⟩
                · skip
                  refine v_if_gt (tgt := 95) C dX5_copy_74 (by decide) (by decide) (fun h9 => absurd h9 (by decide)) (fun _ => ?_)
                  refine v_iload C 4 dX5_copy_77 rfl ?_
                  refine v_i2l C dX5_copy_79 (by omega) ?_
                  refine v_iload C 5 dX5_copy_80 rfl ?_
                  refine v_i2l C dX5_copy_82 (by omega) ?_
                  refine v_ladd C dX5_copy_83 ?_
                  refine v_aload_n C 0 dX5_copy_84 rfl ?_
                  refine v_getf C (by omega) (by omega) ct_mod rfl 0 (by decide) wf7 hinX5 rfl dX5_copy_85 ?_
                  refine v_iload_n C 3 dX5_copy_88 rfl ?_
                  refine v_iaload C (by omega) (by omega) ct_msizes (by omega) (by omega) (by decide) dX5_copy_89 ?_
                  refine v_i2l C dX5_copy_90 (by omega) ?_
                  refine v_lcmp C (by omega) (by omega) dX5_copy_91 (fun h_7 => ?_) (fun h_8 => ?_) (fun h_9 => ?_)
                  · skip
                    refine v_if_le (tgt := 101) C dX5_copy_92 (by decide) (by decide) (fun _ => ?_) (fun h9 => absurd h9 (by decide))
                    refine v_iconst C dX5_copy_101 ?_
                    refine v_istore (lv' := [(6, .int (iI (0))), (0, .ref (a (0))), (1, .int (iI (r))), (2, .int (iI (i))), (3, .int (iI (u))), (4, .int (iI (j))), (5, .int (iI (n)))]) C dX5_copy_102 (by decide) rfl ?_
                    refine v_g (g' := (cpf g 3 0 0 (fun x => g 2 (40 * r + i + x)))) (by rw [cpf_0]) ?_
                    refine v_loop1 (fun (t : Int) => (n - t).toNat) (fun (t : Int) => 0 ≤ t ∧ t ≤ n) (fun (t : Int) => [(6, .int (iI (t))), (0, .ref (a (0))), (1, .int (iI (r))), (2, .int (iI (i))), (3, .int (iI (u))), (4, .int (iI (j))), (5, .int (iI (n)))]) (fun (t : Int) => (cpf g 3 0 t (fun x => g 2 (40 * r + i + x)))) ?_ 0 (by omega)
                    intro t hI104 ih104
                    try dsimp only at ih104 ⊢
                    refine v_iload C 0 dX5_copy_104 rfl ?_
                    refine v_iload C 6 dX5_copy_106 rfl ?_
                    refine v_icmp_ge (tgt := 138) C dX5_copy_108 (by decide) (by omega) (by omega) (fun c108 => ?_) (fun c108 => ?_)
                    · skip
                      refine v_iconst C dX5_copy_138 ?_
                      refine v_istore (lv' := [(6, .int (iI (0))), (0, .ref (a (0))), (1, .int (iI (r))), (2, .int (iI (i))), (3, .int (iI (u))), (4, .int (iI (j))), (5, .int (iI (n)))]) C dX5_copy_139 (by decide) rfl ?_
                      refine v_g (g' := (cpf (cpf g 3 0 n (fun x => g 2 (40 * r + i + x))) 2 (40 * u + j) 0 (fun x => g 2 (40 * r + i + x)))) (by rw [cpf_0, show t = n by omega]) ?_
                      refine v_loop1 (fun (t : Int) => (n - t).toNat) (fun (t : Int) => 0 ≤ t ∧ t ≤ n) (fun (t : Int) => [(6, .int (iI (t))), (0, .ref (a (0))), (1, .int (iI (r))), (2, .int (iI (i))), (3, .int (iI (u))), (4, .int (iI (j))), (5, .int (iI (n)))]) (fun (t : Int) => (cpf (cpf g 3 0 n (fun x => g 2 (40 * r + i + x))) 2 (40 * u + j) t (fun x => g 2 (40 * r + i + x)))) ?_ 0 (by omega)
                      intro t hI141 ih141
                      try dsimp only at ih141 ⊢
                      refine v_iload C 0 dX5_copy_141 rfl ?_
                      refine v_iload C 6 dX5_copy_143 rfl ?_
                      refine v_icmp_ge (tgt := 176) C dX5_copy_145 (by decide) (by omega) (by omega) (fun c145 => ?_) (fun c145 => ?_)
                      · skip
                        refine v_iconst C dX5_copy_176 ?_
                        exact v_ret_i C rfl dX5_copy_177 ⟨(by repeat (first | rfl | rw [if_pos (by omega)] | rw [if_neg (by omega)])), (by rw [show t = n by omega]; repeat (first | rfl | rw [if_pos (by omega)] | rw [if_neg (by omega)]))⟩
                      · skip
                        refine v_aload_n C 1 dX5_copy_148 rfl ?_
                        refine v_getf C (by omega) (by omega) ct_mod rfl 1 (by decide) wf13 hinX5 rfl dX5_copy_149 ?_
                        refine v_bipush C dX5_copy_152 (by decide) ?_
                        refine v_iload_n C 4 dX5_copy_154 rfl ?_
                        refine v_imul C dX5_copy_155 ?_
                        refine v_iload C 5 dX5_copy_156 rfl ?_
                        refine v_iadd C dX5_copy_158 ?_
                        refine v_iload C 0 dX5_copy_159 rfl ?_
                        refine v_iadd C dX5_copy_161 ?_
                        refine v_aload_n C 1 dX5_copy_162 rfl ?_
                        refine v_getf C (by omega) (by omega) ct_mod rfl 2 (by decide) wf16 hinX5 rfl dX5_copy_163 ?_
                        refine v_iload C 0 dX5_copy_166 rfl ?_
                        refine v_iaload C (by omega) (by omega) ct_mspare (by omega) (by omega) (by decide) dX5_copy_168 ?_
                        refine v_st (st' := [.int (iI (g 2 (40 * r + i + t))), .int (iI (((40 * u) + j) + t)), .ref (a (2))]) (by rw [cpf_o (by decide)]; unfold cpf; rw [if_pos ⟨rfl, by omega, by omega⟩, Int.sub_zero]) ?_
                        refine v_iastore C (ctm_L a yc) (by omega) (by omega) ct_mitems (ct_mitems).symm (by omega) (by omega) (by decide) dX5_copy_169 ?_
                        refine v_iinc (z' := t + 1) (lv' := [(6, .int (iI (t + 1))), (0, .ref (a (0))), (1, .int (iI (r))), (2, .int (iI (i))), (3, .int (iI (u))), (4, .int (iI (j))), (5, .int (iI (n)))]) C 0 dX5_copy_170 rfl (by omega) (by decide) rfl ?_
                        refine v_goto (tgt := 141) C dX5_copy_173 (by decide) ?_
                        exact v_g (by rw [← cpf_s (by omega)]) (ih141 (t + 1) (by omega) (by omega))
                    · skip
                      refine v_aload_n C 1 dX5_copy_111 rfl ?_
                      refine v_getf C (by omega) (by omega) ct_mod rfl 2 (by decide) wf16 hinX5 rfl dX5_copy_112 ?_
                      refine v_iload C 0 dX5_copy_115 rfl ?_
                      refine v_aload_n C 1 dX5_copy_117 rfl ?_
                      refine v_getf C (by omega) (by omega) ct_mod rfl 1 (by decide) wf13 hinX5 rfl dX5_copy_118 ?_
                      refine v_bipush C dX5_copy_121 (by decide) ?_
                      refine v_iload_n C 2 dX5_copy_123 rfl ?_
                      refine v_imul C dX5_copy_124 ?_
                      refine v_iload_n C 3 dX5_copy_125 rfl ?_
                      refine v_iadd C dX5_copy_126 ?_
                      refine v_iload C 0 dX5_copy_127 rfl ?_
                      refine v_iadd C dX5_copy_129 ?_
                      refine v_iaload C (by omega) (by omega) ct_mitems (by omega) (by omega) (by decide) dX5_copy_130 ?_
                      refine v_st (st' := [.int (iI (g 2 (40 * r + i + t))), .int (iI (t)), .ref (a (3))]) (by rw [cpf_o (by decide)]) ?_
                      refine v_iastore C (ctm_L a yc) (by omega) (by omega) ct_mspare (ct_mspare).symm (by omega) (by omega) (by decide) dX5_copy_131 ?_
                      refine v_iinc (z' := t + 1) (lv' := [(6, .int (iI (t + 1))), (0, .ref (a (0))), (1, .int (iI (r))), (2, .int (iI (i))), (3, .int (iI (u))), (4, .int (iI (j))), (5, .int (iI (n)))]) C 0 dX5_copy_132 rfl (by omega) (by decide) rfl ?_
                      refine v_goto (tgt := 104) C dX5_copy_135 (by decide) ?_
                      exact v_g (by rw [← cpf_s (by omega), Int.zero_add]) (ih104 (t + 1) (by omega) (by omega))
                  · skip
                    refine v_if_le (tgt := 101) C dX5_copy_92 (by decide) (by decide) (fun _ => ?_) (fun h9 => absurd h9 (by decide))
                    refine v_iconst C dX5_copy_101 ?_
                    refine v_istore (lv' := [(6, .int (iI (0))), (0, .ref (a (0))), (1, .int (iI (r))), (2, .int (iI (i))), (3, .int (iI (u))), (4, .int (iI (j))), (5, .int (iI (n)))]) C dX5_copy_102 (by decide) rfl ?_
                    refine v_g (g' := (cpf g 3 0 0 (fun x => g 2 (40 * r + i + x)))) (by rw [cpf_0]) ?_
                    refine v_loop1 (fun (t : Int) => (n - t).toNat) (fun (t : Int) => 0 ≤ t ∧ t ≤ n) (fun (t : Int) => [(6, .int (iI (t))), (0, .ref (a (0))), (1, .int (iI (r))), (2, .int (iI (i))), (3, .int (iI (u))), (4, .int (iI (j))), (5, .int (iI (n)))]) (fun (t : Int) => (cpf g 3 0 t (fun x => g 2 (40 * r + i + x)))) ?_ 0 (by omega)
                    intro t hI104 ih104
                    try dsimp only at ih104 ⊢
                    refine v_iload C 0 dX5_copy_104 rfl ?_
                    refine v_iload C 6 dX5_copy_106 rfl ?_
                    refine v_icmp_ge (tgt := 138) C dX5_copy_108 (by decide) (by omega) (by omega) (fun c108 => ?_) (fun c108 => ?_)
                    · skip
                      refine v_iconst C dX5_copy_138 ?_
                      refine v_istore (lv' := [(6, .int (iI (0))), (0, .ref (a (0))), (1, .int (iI (r))), (2, .int (iI (i))), (3, .int (iI (u))), (4, .int (iI (j))), (5, .int (iI (n)))]) C dX5_copy_139 (by decide) rfl ?_
                      refine v_g (g' := (cpf (cpf g 3 0 n (fun x => g 2 (40 * r + i + x))) 2 (40 * u + j) 0 (fun x => g 2 (40 * r + i + x)))) (by rw [cpf_0, show t = n by omega]) ?_
                      refine v_loop1 (fun (t : Int) => (n - t).toNat) (fun (t : Int) => 0 ≤ t ∧ t ≤ n) (fun (t : Int) => [(6, .int (iI (t))), (0, .ref (a (0))), (1, .int (iI (r))), (2, .int (iI (i))), (3, .int (iI (u))), (4, .int (iI (j))), (5, .int (iI (n)))]) (fun (t : Int) => (cpf (cpf g 3 0 n (fun x => g 2 (40 * r + i + x))) 2 (40 * u + j) t (fun x => g 2 (40 * r + i + x)))) ?_ 0 (by omega)
                      intro t hI141 ih141
                      try dsimp only at ih141 ⊢
                      refine v_iload C 0 dX5_copy_141 rfl ?_
                      refine v_iload C 6 dX5_copy_143 rfl ?_
                      refine v_icmp_ge (tgt := 176) C dX5_copy_145 (by decide) (by omega) (by omega) (fun c145 => ?_) (fun c145 => ?_)
                      · skip
                        refine v_iconst C dX5_copy_176 ?_
                        exact v_ret_i C rfl dX5_copy_177 ⟨(by repeat (first | rfl | rw [if_pos (by omega)] | rw [if_neg (by omega)])), (by rw [show t = n by omega]; repeat (first | rfl | rw [if_pos (by omega)] | rw [if_neg (by omega)]))⟩
                      · skip
                        refine v_aload_n C 1 dX5_copy_148 rfl ?_
                        refine v_getf C (by omega) (by omega) ct_mod rfl 1 (by decide) wf13 hinX5 rfl dX5_copy_149 ?_
                        refine v_bipush C dX5_copy_152 (by decide) ?_
                        refine v_iload_n C 4 dX5_copy_154 rfl ?_
                        refine v_imul C dX5_copy_155 ?_
                        refine v_iload C 5 dX5_copy_156 rfl ?_
                        refine v_iadd C dX5_copy_158 ?_
                        refine v_iload C 0 dX5_copy_159 rfl ?_
                        refine v_iadd C dX5_copy_161 ?_
                        refine v_aload_n C 1 dX5_copy_162 rfl ?_
                        refine v_getf C (by omega) (by omega) ct_mod rfl 2 (by decide) wf16 hinX5 rfl dX5_copy_163 ?_
                        refine v_iload C 0 dX5_copy_166 rfl ?_
                        refine v_iaload C (by omega) (by omega) ct_mspare (by omega) (by omega) (by decide) dX5_copy_168 ?_
                        refine v_st (st' := [.int (iI (g 2 (40 * r + i + t))), .int (iI (((40 * u) + j) + t)), .ref (a (2))]) (by rw [cpf_o (by decide)]; unfold cpf; rw [if_pos ⟨rfl, by omega, by omega⟩, Int.sub_zero]) ?_
                        refine v_iastore C (ctm_L a yc) (by omega) (by omega) ct_mitems (ct_mitems).symm (by omega) (by omega) (by decide) dX5_copy_169 ?_
                        refine v_iinc (z' := t + 1) (lv' := [(6, .int (iI (t + 1))), (0, .ref (a (0))), (1, .int (iI (r))), (2, .int (iI (i))), (3, .int (iI (u))), (4, .int (iI (j))), (5, .int (iI (n)))]) C 0 dX5_copy_170 rfl (by omega) (by decide) rfl ?_
                        refine v_goto (tgt := 141) C dX5_copy_173 (by decide) ?_
                        exact v_g (by rw [← cpf_s (by omega)]) (ih141 (t + 1) (by omega) (by omega))
                    · skip
                      refine v_aload_n C 1 dX5_copy_111 rfl ?_
                      refine v_getf C (by omega) (by omega) ct_mod rfl 2 (by decide) wf16 hinX5 rfl dX5_copy_112 ?_
                      refine v_iload C 0 dX5_copy_115 rfl ?_
                      refine v_aload_n C 1 dX5_copy_117 rfl ?_
                      refine v_getf C (by omega) (by omega) ct_mod rfl 1 (by decide) wf13 hinX5 rfl dX5_copy_118 ?_
                      refine v_bipush C dX5_copy_121 (by decide) ?_
                      refine v_iload_n C 2 dX5_copy_123 rfl ?_
                      refine v_imul C dX5_copy_124 ?_
                      refine v_iload_n C 3 dX5_copy_125 rfl ?_
                      refine v_iadd C dX5_copy_126 ?_
                      refine v_iload C 0 dX5_copy_127 rfl ?_
                      refine v_iadd C dX5_copy_129 ?_
                      refine v_iaload C (by omega) (by omega) ct_mitems (by omega) (by omega) (by decide) dX5_copy_130 ?_
                      refine v_st (st' := [.int (iI (g 2 (40 * r + i + t))), .int (iI (t)), .ref (a (3))]) (by rw [cpf_o (by decide)]) ?_
                      refine v_iastore C (ctm_L a yc) (by omega) (by omega) ct_mspare (ct_mspare).symm (by omega) (by omega) (by decide) dX5_copy_131 ?_
                      refine v_iinc (z' := t + 1) (lv' := [(6, .int (iI (t + 1))), (0, .ref (a (0))), (1, .int (iI (r))), (2, .int (iI (i))), (3, .int (iI (u))), (4, .int (iI (j))), (5, .int (iI (n)))]) C 0 dX5_copy_132 rfl (by omega) (by decide) rfl ?_
                      refine v_goto (tgt := 104) C dX5_copy_135 (by decide) ?_
                      exact v_g (by rw [← cpf_s (by omega), Int.zero_add]) (ih104 (t + 1) (by omega) (by omega))
                  · skip
                    refine v_if_le (tgt := 101) C dX5_copy_92 (by decide) (by decide) (fun h9 => absurd h9 (by decide)) (fun _ => ?_)
                    refine v_aload_n C 0 dX5_copy_95 rfl ?_
                    refine v_iconst C dX5_copy_96 ?_
                    refine v_cV_i C (As := [.int (iI (2))]) (rest := []) (c_X5_finds l D yc t1 t2 a A g 2 (by omega)) (cwV 1 C.hts gX5_copy_X5_finds rfl rfl rfl (by decide +kernel) ⟨by decide, by decide⟩) (fun H hP => va_recv C.hK hP (ci := 5) (q0 := (0 : Int).toNat) rfl (wo_is (by omega) (by omega) ct_mod)) rfl rfl (Nat.le_of_ble_eq_true rfl) dX5_copy_97 ?_
                    intro r9 g9 h9
                    rw [h9.1, h9.2]
                    clear h9 g9 r9
                    try dsimp only
                    exact v_ret_i C rfl dX5_copy_100 ⟨(by repeat (first | rfl | rw [if_pos (by omega)] | rw [if_neg (by omega)])), (by repeat (first | rfl | rw [if_pos (by omega)] | rw [if_neg (by omega)]))⟩
                · skip
                  refine v_if_gt (tgt := 95) C dX5_copy_74 (by decide) (by decide) (fun _ => ?_) (fun h9 => absurd h9 (by decide))
                  refine v_aload_n C 0 dX5_copy_95 rfl ?_
                  refine v_iconst C dX5_copy_96 ?_
                  refine v_cV_i C (As := [.int (iI (2))]) (rest := []) (c_X5_finds l D yc t1 t2 a A g 2 (by omega)) (cwV 1 C.hts gX5_copy_X5_finds rfl rfl rfl (by decide +kernel) ⟨by decide, by decide⟩) (fun H hP => va_recv C.hK hP (ci := 5) (q0 := (0 : Int).toNat) rfl (wo_is (by omega) (by omega) ct_mod)) rfl rfl (Nat.le_of_ble_eq_true rfl) dX5_copy_97 ?_
                  intro r9 g9 h9
                  rw [h9.1, h9.2]
                  clear h9 g9 r9
                  try dsimp only
                  exact v_ret_i C rfl dX5_copy_100 ⟨(by repeat (first | rfl | rw [if_pos (by omega)] | rw [if_neg (by omega)])), (by repeat (first | rfl | rw [if_pos (by omega)] | rw [if_neg (by omega)]))⟩
          · skip
            refine v_aload_n C 0 dX5_copy_45 rfl ?_
            refine v_iconst C dX5_copy_46 ?_
            refine v_cV_i C (As := [.int (iI (1))]) (rest := []) (c_X5_finds l D yc t1 t2 a A g 1 (by omega)) (cwV 1 C.hts gX5_copy_X5_finds rfl rfl rfl (by decide +kernel) ⟨by decide, by decide⟩) (fun H hP => va_recv C.hK hP (ci := 5) (q0 := (0 : Int).toNat) rfl (wo_is (by omega) (by omega) ct_mod)) rfl rfl (Nat.le_of_ble_eq_true rfl) dX5_copy_47 ?_
            intro r9 g9 h9
            rw [h9.1, h9.2]
            clear h9 g9 r9
            try dsimp only
            exact v_ret_i C rfl dX5_copy_50 ⟨(by repeat (first | rfl | rw [if_pos (by omega)] | rw [if_neg (by omega)])), (by repeat (first | rfl | rw [if_pos (by omega)] | rw [if_neg (by omega)]))⟩
      · skip
        refine v_aload_n C 0 dX5_copy_21 rfl ?_
        refine v_iconst C dX5_copy_22 ?_
        refine v_cV_i C (As := [.int (iI (5))]) (rest := []) (c_X5_finds l D yc t1 t2 a A g 5 (by omega)) (cwV 1 C.hts gX5_copy_X5_finds rfl rfl rfl (by decide +kernel) ⟨by decide, by decide⟩) (fun H hP => va_recv C.hK hP (ci := 5) (q0 := (0 : Int).toNat) rfl (wo_is (by omega) (by omega) ct_mod)) rfl rfl (Nat.le_of_ble_eq_true rfl) dX5_copy_23 ?_
        intro r9 g9 h9
        rw [h9.1, h9.2]
        clear h9 g9 r9
        try dsimp only
        exact v_ret_i C rfl dX5_copy_26 ⟨(by repeat (first | rfl | rw [if_pos (by omega)] | rw [if_neg (by omega)])), (by repeat (first | rfl | rw [if_pos (by omega)] | rw [if_neg (by omega)]))⟩
    · skip
      refine v_iconst C dX5_copy_14 ?_
      exact v_ret_i C rfl dX5_copy_15 ⟨(by repeat (first | rfl | rw [if_pos (by omega)] | rw [if_neg (by omega)])), (by repeat (first | rfl | rw [if_pos (by omega)] | rw [if_neg (by omega)]))⟩

set_option maxRecDepth 100000 in
set_option maxHeartbeats 4000000 in
theorem c_X5_mean (l : Launch) (D : va_G) (yc : Nat → ClassId) (t1 t2 : Nat) (a : Int → Nat) (A : Nat → Prop) (g : Mm) (r : Int) (hr : R32 r) (HM : MI g) : Ci l yX5_mean wsX5_mean { frames := 2, cells := 0, slots := 0, locals := 42 } D yc t1 t2 A (mw a yc) [.ref (a (0)), .int (iI (r))] g (fun r9 g' => r9 = (iI (if r < 0 ∨ 5 < r then -1 else if g 1 r < 0 then -3 else if g 1 r = 0 then -3 else 1)) ∧ g' = (if r < 0 ∨ 5 < r then g else if g 1 r < 0 then fnM g 1 else if g 1 r = 0 then fnM g 4 else mu g 0 11 (mnZ (sI (fun x => g 2 (40 * r + x)) (g 1 r)) (g 1 r)))) := by
  refine start_i (cc := cX5_mean) (nL := 5) (ret := (some .int)) (own := RX5) (by decide +kernel) rfl rfl (Nat.le_of_ble_eq_true rfl) ?_
  intro p e s m9 below meth c9 C
  have wf7 : Cond.fieldLink RX5 7 (TX5 0).1 (TX5 0).2.1 (TX5 0).2.2.1 ∈ wsX5_mean := by decide +kernel
  have hinX5 : ∀ w ∈ u_ws RX5 TX5 17, w ∈ wsX5_mean := by decide +kernel
  have wf13 : Cond.fieldLink RX5 13 (TX5 1).1 (TX5 1).2.1 (TX5 1).2.2.1 ∈ wsX5_mean := by decide +kernel
  refine v_lv (lv' := [(0, .ref (a (0))), (1, .int (iI (r)))]) rfl ?_
  refine v_iload_n C 1 dX5_mean_0 rfl ?_
  refine v_cS_i C (As := [.int (iI (r))]) (rest := []) (c_X5_isRow l D yc t1 t2 A (mw a yc) g r (by omega)) (va_cwS 1 C.hts gX5_mean_X5_isRow rfl rfl rfl (by decide +kernel) ⟨by decide, by decide⟩) rfl rfl (Nat.le_of_ble_eq_true rfl) dX5_mean_1 ?_
  intro r9 g9 h9
  rw [h9.1, h9.2]
  clear h9 g9 r9
  try dsimp only
  refine v_ifb_ne (tgt := 9) C dX5_mean_4 (by decide) (fun c4 => ?_) (fun c4 => ?_)
  · skip
    have hs := HM.sz (r := r) (by omega) (by omega)
    refine v_aload_n C 0 dX5_mean_9 rfl ?_
    refine v_getf C (by omega) (by omega) ct_mod rfl 0 (by decide) wf7 hinX5 rfl dX5_mean_10 ?_
    refine v_iload_n C 1 dX5_mean_13 rfl ?_
    refine v_iaload C (by omega) (by omega) ct_msizes (by omega) (by omega) (by decide) dX5_mean_14 ?_
    refine v_if_ge (tgt := 24) C dX5_mean_15 (by decide) (by omega) (fun c15 => ?_) (fun c15 => ?_)
    · skip
      refine v_aload_n C 0 dX5_mean_24 rfl ?_
      refine v_getf C (by omega) (by omega) ct_mod rfl 0 (by decide) wf7 hinX5 rfl dX5_mean_25 ?_
      refine v_iload_n C 1 dX5_mean_28 rfl ?_
      refine v_iaload C (by omega) (by omega) ct_msizes (by omega) (by omega) (by decide) dX5_mean_29 ?_
      refine v_if_ne (tgt := 39) C dX5_mean_30 (by decide) (by omega) (fun c30 => ?_) (fun c30 => ?_)
      · skip
        refine v_lconst (z := 0) C dX5_mean_39 (by decide) ?_
        refine v_lstore_n (lv' := [(2, .long (lI (0))), (0, .ref (a (0))), (1, .int (iI (r)))]) C dX5_mean_40 (by decide) rfl ?_
        refine v_iconst C dX5_mean_41 ?_
        refine v_istore (lv' := [(4, .int (iI (0))), (2, .long (lI (0))), (0, .ref (a (0))), (1, .int (iI (r)))]) C dX5_mean_42 (by decide) rfl ?_
        refine v_lv (congrArg (fun x9 => ([(4, .int (iI (0))), (2, .long (lI x9)), (0, .ref (a (0))), (1, .int (iI (r)))] : List (Nat × Value))) (show (0) = (sI (fun x => g 2 (40 * r + x)) 0) by first | rfl | omega | (simp; done))) ?_
        refine v_loop1 (fun (t : Int) => (g 1 r - t).toNat) (fun (t : Int) => 0 ≤ t ∧ t ≤ g 1 r) (fun (t : Int) => [(4, .int (iI (t))), (2, .long (lI (sI (fun x => g 2 (40 * r + x)) t))), (0, .ref (a (0))), (1, .int (iI (r)))]) (fun (t : Int) => g) ?_ 0 (by omega)
        intro t hI44 ih44
        try dsimp only at ih44 ⊢
        refine v_iload C 0 dX5_mean_44 rfl ?_
        refine v_aload_n C 2 dX5_mean_46 rfl ?_
        refine v_getf C (by omega) (by omega) ct_mod rfl 0 (by decide) wf7 hinX5 rfl dX5_mean_47 ?_
        refine v_iload_n C 3 dX5_mean_50 rfl ?_
        refine v_iaload C (by omega) (by omega) ct_msizes (by omega) (by omega) (by decide) dX5_mean_51 ?_
        refine v_icmp_ge (tgt := 77) C dX5_mean_52 (by decide) (by omega) (by omega) (fun c52 => ?_) (fun c52 => ?_)
        · skip
          refine v_aload_n C 2 dX5_mean_77 rfl ?_
          refine v_iconst C dX5_mean_78 ?_
          refine v_lload_n C 1 dX5_mean_79 rfl ?_
          refine v_aload_n C 2 dX5_mean_80 rfl ?_
          refine v_getf C (by omega) (by omega) ct_mod rfl 0 (by decide) wf7 hinX5 rfl dX5_mean_81 ?_
          refine v_iload_n C 3 dX5_mean_84 rfl ?_
          refine v_iaload C (by omega) (by omega) ct_msizes (by omega) (by omega) (by decide) dX5_mean_85 ?_
          refine v_i2l C dX5_mean_86 (by omega) ?_
          refine v_ldivR (z := (lI (sI (fun x => g 2 (40 * r + x)) (g 1 r)) / lI (g 1 r))) C dX5_mean_87 (lI_ne (by omega) (by omega)) (by rw [show t = g 1 r by omega]) ?_
          refine v_l2iR (z := (iI (mnZ (sI (fun x => g 2 (40 * r + x)) (g 1 r)) (g 1 r)))) C dX5_mean_88 (iI_of _).symm ?_
          refine v_cV_i C (As := [.int (iI (1)), .int (iI (mnZ (sI (fun x => g 2 (40 * r + x)) (g 1 r)) (g 1 r)))]) (rest := []) (c_X5_tells l D yc t1 t2 a A g 1 (mnZ (sI (fun x => g 2 (40 * r + x)) (g 1 r)) (g 1 r))) (cwV 2 C.hts gX5_mean_X5_tells rfl rfl rfl (by decide +kernel) ⟨by decide, by decide⟩) (fun H hP => va_recv C.hK hP (ci := 5) (q0 := (0 : Int).toNat) rfl (wo_is (by omega) (by omega) ct_mod)) rfl rfl (Nat.le_of_ble_eq_true rfl) dX5_mean_89 ?_
          intro r9 g9 h9
          rw [h9.1, h9.2]
          clear h9 g9 r9
          try dsimp only
          exact v_ret_i C rfl dX5_mean_92 ⟨(by repeat (first | rfl | rw [if_pos (by omega)] | rw [if_neg (by omega)])), (by repeat (first | rfl | rw [if_pos (by omega)] | rw [if_neg (by omega)]))⟩
        · skip
          refine v_lload_n C 1 dX5_mean_55 rfl ?_
          refine v_aload_n C 2 dX5_mean_56 rfl ?_
          refine v_getf C (by omega) (by omega) ct_mod rfl 1 (by decide) wf13 hinX5 rfl dX5_mean_57 ?_
          refine v_bipush C dX5_mean_60 (by decide) ?_
          refine v_iload_n C 3 dX5_mean_62 rfl ?_
          refine v_imul C dX5_mean_63 ?_
          refine v_iload C 0 dX5_mean_64 rfl ?_
          refine v_iadd C dX5_mean_66 ?_
          refine v_iaload C (by omega) (by omega) ct_mitems (by omega) (by omega) (by decide) dX5_mean_67 ?_
          refine v_i2l C dX5_mean_68 (HM.it _) ?_
          refine v_ladd C dX5_mean_69 ?_
          refine v_st (st' := [.long (lI (sI (fun x => g 2 (40 * r + x)) (t + 1)))]) (by rw [sI_s _ (by omega)]) ?_
          refine v_lstore_n (lv' := [(2, .long (lI (sI (fun x => g 2 (40 * r + x)) (t + 1)))), (4, .int (iI (t))), (0, .ref (a (0))), (1, .int (iI (r)))]) C dX5_mean_70 (by decide) rfl ?_
          refine v_iinc (z' := t + 1) (lv' := [(4, .int (iI (t + 1))), (2, .long (lI (sI (fun x => g 2 (40 * r + x)) (t + 1)))), (0, .ref (a (0))), (1, .int (iI (r)))]) C 1 dX5_mean_71 rfl (by omega) (by decide) rfl ?_
          refine v_goto (tgt := 44) C dX5_mean_74 (by decide) ?_
          exact ih44 (t + 1) (by omega) (by omega)
      · skip
        refine v_aload_n C 0 dX5_mean_33 rfl ?_
        refine v_iconst C dX5_mean_34 ?_
        refine v_cV_i C (As := [.int (iI (4))]) (rest := []) (c_X5_finds l D yc t1 t2 a A g 4 (by omega)) (cwV 1 C.hts gX5_mean_X5_finds rfl rfl rfl (by decide +kernel) ⟨by decide, by decide⟩) (fun H hP => va_recv C.hK hP (ci := 5) (q0 := (0 : Int).toNat) rfl (wo_is (by omega) (by omega) ct_mod)) rfl rfl (Nat.le_of_ble_eq_true rfl) dX5_mean_35 ?_
        intro r9 g9 h9
        rw [h9.1, h9.2]
        clear h9 g9 r9
        try dsimp only
        exact v_ret_i C rfl dX5_mean_38 ⟨(by repeat (first | rfl | rw [if_pos (by omega)] | rw [if_neg (by omega)])), (by repeat (first | rfl | rw [if_pos (by omega)] | rw [if_neg (by omega)]))⟩
    · skip
      refine v_aload_n C 0 dX5_mean_18 rfl ?_
      refine v_iconst C dX5_mean_19 ?_
      refine v_cV_i C (As := [.int (iI (1))]) (rest := []) (c_X5_finds l D yc t1 t2 a A g 1 (by omega)) (cwV 1 C.hts gX5_mean_X5_finds rfl rfl rfl (by decide +kernel) ⟨by decide, by decide⟩) (fun H hP => va_recv C.hK hP (ci := 5) (q0 := (0 : Int).toNat) rfl (wo_is (by omega) (by omega) ct_mod)) rfl rfl (Nat.le_of_ble_eq_true rfl) dX5_mean_20 ?_
      intro r9 g9 h9
      rw [h9.1, h9.2]
      clear h9 g9 r9
      try dsimp only
      exact v_ret_i C rfl dX5_mean_23 ⟨(by repeat (first | rfl | rw [if_pos (by omega)] | rw [if_neg (by omega)])), (by repeat (first | rfl | rw [if_pos (by omega)] | rw [if_neg (by omega)]))⟩
  · skip
    refine v_iconst C dX5_mean_7 ?_
    exact v_ret_i C rfl dX5_mean_8 ⟨(by repeat (first | rfl | rw [if_pos (by omega)] | rw [if_neg (by omega)])), (by repeat (first | rfl | rw [if_pos (by omega)] | rw [if_neg (by omega)]))⟩

set_option maxRecDepth 100000 in
set_option maxHeartbeats 4000000 in
theorem c_X5_text (l : Launch) (D : va_G) (yc : Nat → ClassId) (t1 t2 : Nat) (a : Int → Nat) (A : Nat → Prop) (g : Mm) (t n : Int) (ht : R32 t) (hn : R32 n) : Ci l yX5_text wsX5_text { frames := 2, cells := 0, slots := 0, locals := 42 } D yc t1 t2 A (mw a yc) [.ref (a (0)), .int (iI (t)), .int (iI (n))] g (fun r9 g' => r9 = (iI (if (t < 0 ∨ 3 < t) ∨ 60 < n then -1 else if n < 0 then -3 else n)) ∧ g' = (if (t < 0 ∨ 3 < t) ∨ 60 < n then g else if n < 0 then fnM g 5 else fls (mu g 4 t n) 5 (60 * t) 60 32)) := by
  refine start_i (cc := cX5_text) (nL := 4) (ret := (some .int)) (own := RX5) (by decide +kernel) rfl rfl (Nat.le_of_ble_eq_true rfl) ?_
  intro p e s m9 below meth c9 C
  have wf19 : Cond.fieldLink RX5 19 (TX5 3).1 (TX5 3).2.1 (TX5 3).2.2.1 ∈ wsX5_text := by decide +kernel
  have hinX5 : ∀ w ∈ u_ws RX5 TX5 17, w ∈ wsX5_text := by decide +kernel
  have wf22 : Cond.fieldLink RX5 22 (TX5 4).1 (TX5 4).2.1 (TX5 4).2.2.1 ∈ wsX5_text := by decide +kernel
  refine v_lv (lv' := [(0, .ref (a (0))), (1, .int (iI (t))), (2, .int (iI (n)))]) rfl ?_
  refine v_iload_n C 1 dX5_text_0 rfl ?_
  refine v_cS_i C (As := [.int (iI (t))]) (rest := []) (c_X5_isText l D yc t1 t2 A (mw a yc) g t (by omega)) (va_cwS 1 C.hts gX5_text_X5_isText rfl rfl rfl (by decide +kernel) ⟨by decide, by decide⟩) rfl rfl (Nat.le_of_ble_eq_true rfl) dX5_text_1 ?_
  intro r9 g9 h9
  rw [h9.1, h9.2]
  clear h9 g9 r9
  try dsimp only
  refine v_ifb_eq (tgt := 13) C dX5_text_4 (by decide) (fun c4 => ?_) (fun c4 => ?_)
  · skip
    refine v_iconst C dX5_text_13 ?_
    exact v_ret_i C rfl dX5_text_14 ⟨(by repeat (first | rfl | rw [if_pos (by omega)] | rw [if_neg (by omega)])), (by repeat (first | rfl | rw [if_pos (by omega)] | rw [if_neg (by omega)]))⟩
  · skip
    refine v_iload_n C 2 dX5_text_7 rfl ?_
    refine v_bipush C dX5_text_8 (by decide) ?_
    refine v_icmp_le (tgt := 15) C dX5_text_10 (by decide) (by omega) (by omega) (fun c10 => ?_) (fun c10 => ?_)
    · skip
      refine v_iload_n C 2 dX5_text_15 rfl ?_
      refine v_if_ge (tgt := 25) C dX5_text_16 (by decide) (by omega) (fun c16 => ?_) (fun c16 => ?_)
      · skip
        refine v_aload_n C 0 dX5_text_25 rfl ?_
        refine v_getf C (by omega) (by omega) ct_mod rfl 3 (by decide) wf19 hinX5 rfl dX5_text_26 ?_
        refine v_iload_n C 1 dX5_text_29 rfl ?_
        refine v_iload_n C 2 dX5_text_30 rfl ?_
        refine v_iastore C (ctm_L a yc) (by omega) (by omega) ct_mlengths (ct_mlengths).symm (by omega) (by omega) (by decide) dX5_text_31 ?_
        refine v_iconst C dX5_text_32 ?_
        refine v_istore_n (lv' := [(3, .int (iI (0))), (0, .ref (a (0))), (1, .int (iI (t))), (2, .int (iI (n)))]) C dX5_text_33 (by decide) rfl ?_
        refine v_g (g' := (fls (mu g 4 t n) 5 (60 * t) 0 32)) (by rw [fls_0]) ?_
        refine v_loop1 (fun (x : Int) => (60 - x).toNat) (fun (x : Int) => 0 ≤ x ∧ x ≤ 60) (fun (x : Int) => [(3, .int (iI (x))), (0, .ref (a (0))), (1, .int (iI (t))), (2, .int (iI (n)))]) (fun (x : Int) => (fls (mu g 4 t n) 5 (60 * t) x 32)) ?_ 0 (by omega)
        intro x hI34 ih34
        try dsimp only at ih34 ⊢
        refine v_iload_n C 0 dX5_text_34 rfl ?_
        refine v_bipush C dX5_text_35 (by decide) ?_
        refine v_icmp_ge (tgt := 59) C dX5_text_37 (by decide) (by omega) (by omega) (fun c37 => ?_) (fun c37 => ?_)
        · skip
          refine v_iload_n C 3 dX5_text_59 rfl ?_
          exact v_ret_i C rfl dX5_text_60 ⟨(by repeat (first | rfl | rw [if_pos (by omega)] | rw [if_neg (by omega)])), (by rw [show x = 60 by omega]; repeat (first | rfl | rw [if_pos (by omega)] | rw [if_neg (by omega)]))⟩
        · skip
          refine v_aload_n C 1 dX5_text_40 rfl ?_
          refine v_getf C (by omega) (by omega) ct_mod rfl 4 (by decide) wf22 hinX5 rfl dX5_text_41 ?_
          refine v_bipush C dX5_text_44 (by decide) ?_
          refine v_iload_n C 2 dX5_text_46 rfl ?_
          refine v_imul C dX5_text_47 ?_
          refine v_iload_n C 0 dX5_text_48 rfl ?_
          refine v_iadd C dX5_text_49 ?_
          refine v_bipush C dX5_text_50 (by decide) ?_
          refine v_iastore C (ctm_L a yc) (by omega) (by omega) ct_mbytes (ct_mbytes).symm (by omega) (by omega) (by decide) dX5_text_52 ?_
          refine v_iinc (z' := x + 1) (lv' := [(3, .int (iI (x + 1))), (0, .ref (a (0))), (1, .int (iI (t))), (2, .int (iI (n)))]) C 0 dX5_text_53 rfl (by omega) (by decide) rfl ?_
          refine v_goto (tgt := 34) C dX5_text_56 (by decide) ?_
          exact v_g (fls_s (by omega)) (ih34 (x + 1) (by omega) (by omega))
      · skip
        refine v_aload_n C 0 dX5_text_19 rfl ?_
        refine v_iconst C dX5_text_20 ?_
        refine v_cV_i C (As := [.int (iI (5))]) (rest := []) (c_X5_finds l D yc t1 t2 a A g 5 (by omega)) (cwV 1 C.hts gX5_text_X5_finds rfl rfl rfl (by decide +kernel) ⟨by decide, by decide⟩) (fun H hP => va_recv C.hK hP (ci := 5) (q0 := (0 : Int).toNat) rfl (wo_is (by omega) (by omega) ct_mod)) rfl rfl (Nat.le_of_ble_eq_true rfl) dX5_text_21 ?_
        intro r9 g9 h9
        rw [h9.1, h9.2]
        clear h9 g9 r9
        try dsimp only
        exact v_ret_i C rfl dX5_text_24 ⟨(by repeat (first | rfl | rw [if_pos (by omega)] | rw [if_neg (by omega)])), (by repeat (first | rfl | rw [if_pos (by omega)] | rw [if_neg (by omega)]))⟩
    · skip
      refine v_iconst C dX5_text_13 ?_
      exact v_ret_i C rfl dX5_text_14 ⟨(by repeat (first | rfl | rw [if_pos (by omega)] | rw [if_neg (by omega)])), (by repeat (first | rfl | rw [if_pos (by omega)] | rw [if_neg (by omega)]))⟩

set_option maxRecDepth 100000 in
set_option maxHeartbeats 4000000 in
theorem c_X5_put (l : Launch) (D : va_G) (yc : Nat → ClassId) (t1 t2 : Nat) (a : Int → Nat) (A : Nat → Prop) (g : Mm) (t i v : Int) (ht : R32 t) (hi : R32 i) (HM : MI g) : Ci l yX5_put wsX5_put { frames := 2, cells := 0, slots := 0, locals := 42 } D yc t1 t2 A (mw a yc) [.ref (a (0)), .int (iI (t)), .int (iI (i)), .int (iI (v))] g (fun r9 g' => r9 = (iI (if t < 0 ∨ 3 < t then -1 else if g 4 t < 0 then -3 else if i < 0 ∨ g 4 t ≤ i then -3 else g 5 (60 * t + i) + 1000)) ∧ g' = (if t < 0 ∨ 3 < t then g else if g 4 t < 0 then fnM g 1 else if i < 0 ∨ g 4 t ≤ i then fnM g 2 else mu g 5 (60 * t + i) (i8 v))) := by
  refine start_i (cc := cX5_put) (nL := 5) (ret := (some .int)) (own := RX5) (by decide +kernel) rfl rfl (Nat.le_of_ble_eq_true rfl) ?_
  intro p e s m9 below meth c9 C
  have wf19 : Cond.fieldLink RX5 19 (TX5 3).1 (TX5 3).2.1 (TX5 3).2.2.1 ∈ wsX5_put := by decide +kernel
  have hinX5 : ∀ w ∈ u_ws RX5 TX5 17, w ∈ wsX5_put := by decide +kernel
  have wf22 : Cond.fieldLink RX5 22 (TX5 4).1 (TX5 4).2.1 (TX5 4).2.2.1 ∈ wsX5_put := by decide +kernel
  refine v_lv (lv' := [(0, .ref (a (0))), (1, .int (iI (t))), (2, .int (iI (i))), (3, .int (iI (v)))]) rfl ?_
  refine v_iload_n C 1 dX5_put_0 rfl ?_
  refine v_cS_i C (As := [.int (iI (t))]) (rest := []) (c_X5_isText l D yc t1 t2 A (mw a yc) g t (by omega)) (va_cwS 1 C.hts gX5_put_X5_isText rfl rfl rfl (by decide +kernel) ⟨by decide, by decide⟩) rfl rfl (Nat.le_of_ble_eq_true rfl) dX5_put_1 ?_
  intro r9 g9 h9
  rw [h9.1, h9.2]
  clear h9 g9 r9
  try dsimp only
  refine v_ifb_ne (tgt := 9) C dX5_put_4 (by decide) (fun c4 => ?_) (fun c4 => ?_)
  · skip
    have hs := HM.ln (t := t) (by omega) (by omega)
    refine v_aload_n C 0 dX5_put_9 rfl ?_
    refine v_getf C (by omega) (by omega) ct_mod rfl 3 (by decide) wf19 hinX5 rfl dX5_put_10 ?_
    refine v_iload_n C 1 dX5_put_13 rfl ?_
    refine v_iaload C (by omega) (by omega) ct_mlengths (by omega) (by omega) (by decide) dX5_put_14 ?_
    refine v_if_ge (tgt := 24) C dX5_put_15 (by decide) (by omega) (fun c15 => ?_) (fun c15 => ?_)
    · skip
      refine v_iload_n C 2 dX5_put_24 rfl ?_
      refine v_iconst C dX5_put_25 ?_
      refine v_aload_n C 0 dX5_put_26 rfl ?_
      refine v_getf C (by omega) (by omega) ct_mod rfl 3 (by decide) wf19 hinX5 rfl dX5_put_27 ?_
      refine v_iload_n C 1 dX5_put_30 rfl ?_
      refine v_iaload C (by omega) (by omega) ct_mlengths (by omega) (by omega) (by decide) dX5_put_31 ?_
      refine v_iconst C dX5_put_32 ?_
      refine v_isub C dX5_put_33 ?_
      refine v_cS_i C (As := [.int (iI (i)), .int (iI (0)), .int (iI ((g (4) (t)) - 1))]) (rest := []) (c_X5_in l D yc t1 t2 A (mw a yc) g i 0 ((g (4) (t)) - 1) (by omega) (by omega) (by omega)) (va_cwS 3 C.hts gX5_put_X5_in rfl rfl rfl (by decide +kernel) ⟨by decide, by decide⟩) rfl rfl (Nat.le_of_ble_eq_true rfl) dX5_put_34 ?_
      intro r9 g9 h9
      rw [h9.1, h9.2]
      clear h9 g9 r9
      try dsimp only
      refine v_ifb_ne (tgt := 46) C dX5_put_37 (by decide) (fun c37 => ?_) (fun c37 => ?_)
      · skip
        refine v_aload_n C 0 dX5_put_46 rfl ?_
        refine v_getf C (by omega) (by omega) ct_mod rfl 4 (by decide) wf22 hinX5 rfl dX5_put_47 ?_
        refine v_bipush C dX5_put_50 (by decide) ?_
        refine v_iload_n C 1 dX5_put_52 rfl ?_
        refine v_imul C dX5_put_53 ?_
        refine v_iload_n C 2 dX5_put_54 rfl ?_
        refine v_iadd C dX5_put_55 ?_
        refine v_iaload C (by omega) (by omega) ct_mbytes (by omega) (by omega) (by decide) dX5_put_56 ?_
        refine v_istore (lv' := [(4, .int (iI (g (5) ((60 * t) + i)))), (0, .ref (a (0))), (1, .int (iI (t))), (2, .int (iI (i))), (3, .int (iI (v)))]) C dX5_put_57 (by decide) rfl ?_
        refine v_aload_n C 1 dX5_put_59 rfl ?_
        refine v_getf C (by omega) (by omega) ct_mod rfl 4 (by decide) wf22 hinX5 rfl dX5_put_60 ?_
        refine v_bipush C dX5_put_63 (by decide) ?_
        refine v_iload_n C 2 dX5_put_65 rfl ?_
        refine v_imul C dX5_put_66 ?_
        refine v_iload_n C 3 dX5_put_67 rfl ?_
        refine v_iadd C dX5_put_68 ?_
        refine v_iload_n C 4 dX5_put_69 rfl ?_
        refine v_i2b (z := (iI (i8 v))) C dX5_put_70 (i8_e v) ?_
        refine v_iastore C (ctm_L a yc) (by omega) (by omega) ct_mbytes (ct_mbytes).symm (by omega) (by omega) (by decide) dX5_put_71 ?_
        refine v_iload C 0 dX5_put_72 rfl ?_
        refine v_sipush C dX5_put_74 (by decide) ?_
        refine v_iadd C dX5_put_77 ?_
        exact v_ret_i C rfl dX5_put_78 ⟨(by repeat (first | rfl | rw [if_pos (by omega)] | rw [if_neg (by omega)])), (by repeat (first | rfl | rw [if_pos (by omega)] | rw [if_neg (by omega)]))⟩
      · skip
        refine v_aload_n C 0 dX5_put_40 rfl ?_
        refine v_iconst C dX5_put_41 ?_
        refine v_cV_i C (As := [.int (iI (2))]) (rest := []) (c_X5_finds l D yc t1 t2 a A g 2 (by omega)) (cwV 1 C.hts gX5_put_X5_finds rfl rfl rfl (by decide +kernel) ⟨by decide, by decide⟩) (fun H hP => va_recv C.hK hP (ci := 5) (q0 := (0 : Int).toNat) rfl (wo_is (by omega) (by omega) ct_mod)) rfl rfl (Nat.le_of_ble_eq_true rfl) dX5_put_42 ?_
        intro r9 g9 h9
        rw [h9.1, h9.2]
        clear h9 g9 r9
        try dsimp only
        exact v_ret_i C rfl dX5_put_45 ⟨(by repeat (first | rfl | rw [if_pos (by omega)] | rw [if_neg (by omega)])), (by repeat (first | rfl | rw [if_pos (by omega)] | rw [if_neg (by omega)]))⟩
    · skip
      refine v_aload_n C 0 dX5_put_18 rfl ?_
      refine v_iconst C dX5_put_19 ?_
      refine v_cV_i C (As := [.int (iI (1))]) (rest := []) (c_X5_finds l D yc t1 t2 a A g 1 (by omega)) (cwV 1 C.hts gX5_put_X5_finds rfl rfl rfl (by decide +kernel) ⟨by decide, by decide⟩) (fun H hP => va_recv C.hK hP (ci := 5) (q0 := (0 : Int).toNat) rfl (wo_is (by omega) (by omega) ct_mod)) rfl rfl (Nat.le_of_ble_eq_true rfl) dX5_put_20 ?_
      intro r9 g9 h9
      rw [h9.1, h9.2]
      clear h9 g9 r9
      try dsimp only
      exact v_ret_i C rfl dX5_put_23 ⟨(by repeat (first | rfl | rw [if_pos (by omega)] | rw [if_neg (by omega)])), (by repeat (first | rfl | rw [if_pos (by omega)] | rw [if_neg (by omega)]))⟩
  · skip
    refine v_iconst C dX5_put_7 ?_
    exact v_ret_i C rfl dX5_put_8 ⟨(by repeat (first | rfl | rw [if_pos (by omega)] | rw [if_neg (by omega)])), (by repeat (first | rfl | rw [if_pos (by omega)] | rw [if_neg (by omega)]))⟩
