set_option maxRecDepth 100000 in
set_option maxHeartbeats 4000000 in
theorem c_X5_copies_dn (l : Launch) (D : va_G) (yc : Nat → ClassId) (t1 t2 : Nat) (a : Int → Nat) (A : Nat → Prop) (g : Mm) (x0 x1 : Int) (h0 : 0 ≤ x0 ∧ x0 + 98 ≤ 98) (h1 : 0 ≤ x1 ∧ x1 + 98 ≤ 98) : Cv l yX5_copies wsX5_copies { frames := 0, cells := 0, slots := 0, locals := 0 } D yc t1 t2 A (mw a yc) [.ref (a (7)), .int (iI (x0)), .ref (a (6)), .int (iI (x1))] g (fun g' => g' = (cpf g 6 x1 98 (fun x => g 7 (x0 + x)))) := by
  refine start_v (cc := cX5_copies) (nL := 5) (ret := none) (own := RX5) (by decide +kernel) rfl rfl (Nat.le_of_ble_eq_true rfl) ?_
  intro p e s m9 below meth c9 C
  refine v_lv (lv' := [(0, .ref (a (7))), (1, .int (iI (x0))), (2, .ref (a (6))), (3, .int (iI (x1)))]) rfl ?_
  refine v_iconst C dX5_copies_0 ?_
  refine v_istore (lv' := [(4, .int (iI (0))), (0, .ref (a (7))), (1, .int (iI (x0))), (2, .ref (a (6))), (3, .int (iI (x1)))]) C dX5_copies_1 (by decide) rfl ?_
  refine v_g (g' := (cpf g 6 x1 0 (fun x => g 7 (x0 + x)))) (by rw [cpf_0]) ?_
  refine v_loop1 (fun (t : Int) => (98 - t).toNat) (fun (t : Int) => 0 ≤ t ∧ t ≤ 98) (fun (t : Int) => [(4, .int (iI (t))), (0, .ref (a (7))), (1, .int (iI (x0))), (2, .ref (a (6))), (3, .int (iI (x1)))]) (fun (t : Int) => (cpf g 6 x1 t (fun x => g 7 (x0 + x)))) ?_ 0 (by omega)
  intro t hI3 ih3
  try dsimp only at ih3 ⊢
  refine v_iload C 0 dX5_copies_3 rfl ?_
  refine v_bipush C dX5_copies_5 (by decide) ?_
  refine v_icmp_ge (tgt := 28) C dX5_copies_7 (by decide) (by omega) (by omega) (fun c7 => ?_) (fun c7 => ?_)
  · skip
    exact v_ret_v C rfl dX5_copies_28 (by rw [show t = 98 by omega])
  · skip
    refine v_aload_n C 3 dX5_copies_10 rfl ?_
    refine v_iload_n C 4 dX5_copies_11 rfl ?_
    refine v_iload C 0 dX5_copies_12 rfl ?_
    refine v_iadd C dX5_copies_14 ?_
    refine v_aload_n C 1 dX5_copies_15 rfl ?_
    refine v_iload_n C 2 dX5_copies_16 rfl ?_
    refine v_iload C 0 dX5_copies_17 rfl ?_
    refine v_iadd C dX5_copies_19 ?_
    refine v_iaload C (by omega) (by omega) ct_mdraft (by omega) (by omega) (by decide) dX5_copies_20 ?_
    refine v_st (st' := [.int (iI (g 7 (x0 + t))), .int (iI (x1 + t)), .ref (a (6))]) (by rw [cpf_o (by decide)]) ?_
    refine v_iastore C (ctm_L a yc) (by omega) (by omega) ct_mnow (ct_mnow).symm (by omega) (by omega) (by decide) dX5_copies_21 ?_
    refine v_iinc (z' := t + 1) (lv' := [(4, .int (iI (t + 1))), (0, .ref (a (7))), (1, .int (iI (x0))), (2, .ref (a (6))), (3, .int (iI (x1)))]) C 0 dX5_copies_22 rfl (by omega) (by decide) rfl ?_
    refine v_goto (tgt := 3) C dX5_copies_25 (by decide) ?_
    exact v_g (by rw [← cpf_s (by omega)]) (ih3 (t + 1) (by omega) (by omega))

set_option maxRecDepth 100000 in
set_option maxHeartbeats 4000000 in
theorem c_X5_copies_nk (l : Launch) (D : va_G) (yc : Nat → ClassId) (t1 t2 : Nat) (a : Int → Nat) (A : Nat → Prop) (g : Mm) (x0 x1 : Int) (h0 : 0 ≤ x0 ∧ x0 + 98 ≤ 98) (h1 : 0 ≤ x1 ∧ x1 + 98 ≤ 294) : Cv l yX5_copies wsX5_copies { frames := 0, cells := 0, slots := 0, locals := 0 } D yc t1 t2 A (mw a yc) [.ref (a (6)), .int (iI (x0)), .ref (a (8)), .int (iI (x1))] g (fun g' => g' = (cpf g 8 x1 98 (fun x => g 6 (x0 + x)))) := by
  refine start_v (cc := cX5_copies) (nL := 5) (ret := none) (own := RX5) (by decide +kernel) rfl rfl (Nat.le_of_ble_eq_true rfl) ?_
  intro p e s m9 below meth c9 C
  refine v_lv (lv' := [(0, .ref (a (6))), (1, .int (iI (x0))), (2, .ref (a (8))), (3, .int (iI (x1)))]) rfl ?_
  refine v_iconst C dX5_copies_0 ?_
  refine v_istore (lv' := [(4, .int (iI (0))), (0, .ref (a (6))), (1, .int (iI (x0))), (2, .ref (a (8))), (3, .int (iI (x1)))]) C dX5_copies_1 (by decide) rfl ?_
  refine v_g (g' := (cpf g 8 x1 0 (fun x => g 6 (x0 + x)))) (by rw [cpf_0]) ?_
  refine v_loop1 (fun (t : Int) => (98 - t).toNat) (fun (t : Int) => 0 ≤ t ∧ t ≤ 98) (fun (t : Int) => [(4, .int (iI (t))), (0, .ref (a (6))), (1, .int (iI (x0))), (2, .ref (a (8))), (3, .int (iI (x1)))]) (fun (t : Int) => (cpf g 8 x1 t (fun x => g 6 (x0 + x)))) ?_ 0 (by omega)
  intro t hI3 ih3
  try dsimp only at ih3 ⊢
  refine v_iload C 0 dX5_copies_3 rfl ?_
  refine v_bipush C dX5_copies_5 (by decide) ?_
  refine v_icmp_ge (tgt := 28) C dX5_copies_7 (by decide) (by omega) (by omega) (fun c7 => ?_) (fun c7 => ?_)
  · skip
    exact v_ret_v C rfl dX5_copies_28 (by rw [show t = 98 by omega])
  · skip
    refine v_aload_n C 3 dX5_copies_10 rfl ?_
    refine v_iload_n C 4 dX5_copies_11 rfl ?_
    refine v_iload C 0 dX5_copies_12 rfl ?_
    refine v_iadd C dX5_copies_14 ?_
    refine v_aload_n C 1 dX5_copies_15 rfl ?_
    refine v_iload_n C 2 dX5_copies_16 rfl ?_
    refine v_iload C 0 dX5_copies_17 rfl ?_
    refine v_iadd C dX5_copies_19 ?_
    refine v_iaload C (by omega) (by omega) ct_mnow (by omega) (by omega) (by decide) dX5_copies_20 ?_
    refine v_st (st' := [.int (iI (g 6 (x0 + t))), .int (iI (x1 + t)), .ref (a (8))]) (by rw [cpf_o (by decide)]) ?_
    refine v_iastore C (ctm_L a yc) (by omega) (by omega) ct_mkept (ct_mkept).symm (by omega) (by omega) (by decide) dX5_copies_21 ?_
    refine v_iinc (z' := t + 1) (lv' := [(4, .int (iI (t + 1))), (0, .ref (a (6))), (1, .int (iI (x0))), (2, .ref (a (8))), (3, .int (iI (x1)))]) C 0 dX5_copies_22 rfl (by omega) (by decide) rfl ?_
    refine v_goto (tgt := 3) C dX5_copies_25 (by decide) ?_
    exact v_g (by rw [← cpf_s (by omega)]) (ih3 (t + 1) (by omega) (by omega))

set_option maxRecDepth 100000 in
set_option maxHeartbeats 4000000 in
theorem c_X5_copies_kn (l : Launch) (D : va_G) (yc : Nat → ClassId) (t1 t2 : Nat) (a : Int → Nat) (A : Nat → Prop) (g : Mm) (x0 x1 : Int) (h0 : 0 ≤ x0 ∧ x0 + 98 ≤ 294) (h1 : 0 ≤ x1 ∧ x1 + 98 ≤ 98) : Cv l yX5_copies wsX5_copies { frames := 0, cells := 0, slots := 0, locals := 0 } D yc t1 t2 A (mw a yc) [.ref (a (8)), .int (iI (x0)), .ref (a (6)), .int (iI (x1))] g (fun g' => g' = (cpf g 6 x1 98 (fun x => g 8 (x0 + x)))) := by
  refine start_v (cc := cX5_copies) (nL := 5) (ret := none) (own := RX5) (by decide +kernel) rfl rfl (Nat.le_of_ble_eq_true rfl) ?_
  intro p e s m9 below meth c9 C
  refine v_lv (lv' := [(0, .ref (a (8))), (1, .int (iI (x0))), (2, .ref (a (6))), (3, .int (iI (x1)))]) rfl ?_
  refine v_iconst C dX5_copies_0 ?_
  refine v_istore (lv' := [(4, .int (iI (0))), (0, .ref (a (8))), (1, .int (iI (x0))), (2, .ref (a (6))), (3, .int (iI (x1)))]) C dX5_copies_1 (by decide) rfl ?_
  refine v_g (g' := (cpf g 6 x1 0 (fun x => g 8 (x0 + x)))) (by rw [cpf_0]) ?_
  refine v_loop1 (fun (t : Int) => (98 - t).toNat) (fun (t : Int) => 0 ≤ t ∧ t ≤ 98) (fun (t : Int) => [(4, .int (iI (t))), (0, .ref (a (8))), (1, .int (iI (x0))), (2, .ref (a (6))), (3, .int (iI (x1)))]) (fun (t : Int) => (cpf g 6 x1 t (fun x => g 8 (x0 + x)))) ?_ 0 (by omega)
  intro t hI3 ih3
  try dsimp only at ih3 ⊢
  refine v_iload C 0 dX5_copies_3 rfl ?_
  refine v_bipush C dX5_copies_5 (by decide) ?_
  refine v_icmp_ge (tgt := 28) C dX5_copies_7 (by decide) (by omega) (by omega) (fun c7 => ?_) (fun c7 => ?_)
  · skip
    exact v_ret_v C rfl dX5_copies_28 (by rw [show t = 98 by omega])
  · skip
    refine v_aload_n C 3 dX5_copies_10 rfl ?_
    refine v_iload_n C 4 dX5_copies_11 rfl ?_
    refine v_iload C 0 dX5_copies_12 rfl ?_
    refine v_iadd C dX5_copies_14 ?_
    refine v_aload_n C 1 dX5_copies_15 rfl ?_
    refine v_iload_n C 2 dX5_copies_16 rfl ?_
    refine v_iload C 0 dX5_copies_17 rfl ?_
    refine v_iadd C dX5_copies_19 ?_
    refine v_iaload C (by omega) (by omega) ct_mkept (by omega) (by omega) (by decide) dX5_copies_20 ?_
    refine v_st (st' := [.int (iI (g 8 (x0 + t))), .int (iI (x1 + t)), .ref (a (6))]) (by rw [cpf_o (by decide)]) ?_
    refine v_iastore C (ctm_L a yc) (by omega) (by omega) ct_mnow (ct_mnow).symm (by omega) (by omega) (by decide) dX5_copies_21 ?_
    refine v_iinc (z' := t + 1) (lv' := [(4, .int (iI (t + 1))), (0, .ref (a (8))), (1, .int (iI (x0))), (2, .ref (a (6))), (3, .int (iI (x1)))]) C 0 dX5_copies_22 rfl (by omega) (by decide) rfl ?_
    refine v_goto (tgt := 3) C dX5_copies_25 (by decide) ?_
    exact v_g (by rw [← cpf_s (by omega)]) (ih3 (t + 1) (by omega) (by omega))

set_option maxRecDepth 100000 in
set_option maxHeartbeats 4000000 in
theorem c_X5_keep (l : Launch) (D : va_G) (yc : Nat → ClassId) (t1 t2 : Nat) (a : Int → Nat) (A : Nat → Prop) (g : Mm) (k : Int) (hk : R32 k) (HI : FI (g 6)) : Ci l yX5_keep wsX5_keep { frames := 1, cells := 0, slots := 0, locals := 24 } D yc t1 t2 A (mw a yc) [.ref (a (0)), .int (iI (k))] g (fun r9 g' => r9 = (iI (if k < 0 ∨ 2 < k then -1 else if g 6 0 = 0 then -4 else g 6 4)) ∧ g' = (if k < 0 ∨ 2 < k then g else if g 6 0 = 0 then g else mu (cpf g 8 (98 * k) 98 (fun x => g 6 (0 + x))) 9 k 1)) := by
  refine start_i (cc := cX5_keep) (nL := 2) (ret := (some .int)) (own := RX5) (by decide +kernel) rfl rfl (Nat.le_of_ble_eq_true rfl) ?_
  intro p e s m9 below meth c9 C
  have wf25 : Cond.fieldLink RX5 25 (TX5 5).1 (TX5 5).2.1 (TX5 5).2.2.1 ∈ wsX5_keep := by decide +kernel
  have hinX5 : ∀ w ∈ u_ws RX5 TX5 17, w ∈ wsX5_keep := by decide +kernel
  have wf31 : Cond.fieldLink RX5 31 (TX5 7).1 (TX5 7).2.1 (TX5 7).2.2.1 ∈ wsX5_keep := by decide +kernel
  have wf34 : Cond.fieldLink RX5 34 (TX5 8).1 (TX5 8).2.1 (TX5 8).2.2.1 ∈ wsX5_keep := by decide +kernel
  have hn := HI.n
  refine v_lv (lv' := [(0, .ref (a (0))), (1, .int (iI (k)))]) rfl ?_
  refine v_iload_n C 1 dX5_keep_0 rfl ?_
  refine v_iconst C dX5_keep_1 ?_
  refine v_iconst C dX5_keep_2 ?_
  refine v_cS_i C (As := [.int (iI (k)), .int (iI (0)), .int (iI (2))]) (rest := []) (c_X5_in l D yc t1 t2 A (mw a yc) g k 0 2 (by omega) (by omega) (by omega)) (va_cwS 3 C.hts gX5_keep_X5_in rfl rfl rfl (by decide +kernel) ⟨by decide, by decide⟩) rfl rfl (Nat.le_of_ble_eq_true rfl) dX5_keep_3 ?_
  intro r9 g9 h9
  rw [h9.1, h9.2]
  clear h9 g9 r9
  try dsimp only
  refine v_ifb_ne (tgt := 11) C dX5_keep_6 (by decide) (fun c6 => ?_) (fun c6 => ?_)
  · skip
    refine v_aload_n C 0 dX5_keep_11 rfl ?_
    refine v_cV_i C (As := []) (rest := []) (c_X5_are l D yc t1 t2 a A g HI) (cwV 0 C.hts gX5_keep_X5_are rfl rfl rfl (by decide +kernel) ⟨by decide, by decide⟩) (fun H hP => va_recv C.hK hP (ci := 5) (q0 := (0 : Int).toNat) rfl (wo_is (by omega) (by omega) ct_mod)) rfl rfl (Nat.le_of_ble_eq_true rfl) dX5_keep_12 ?_
    intro r9 g9 h9
    rw [h9.1, h9.2]
    clear h9 g9 r9
    try dsimp only
    refine v_ifb_ne (tgt := 21) C dX5_keep_15 (by decide) (fun c15 => ?_) (fun c15 => ?_)
    · skip
      refine v_aload_n C 0 dX5_keep_21 rfl ?_
      refine v_getf C (by omega) (by omega) ct_mod rfl 5 (by decide) wf25 hinX5 rfl dX5_keep_22 ?_
      refine v_iconst C dX5_keep_25 ?_
      refine v_aload_n C 0 dX5_keep_26 rfl ?_
      refine v_getf C (by omega) (by omega) ct_mod rfl 7 (by decide) wf31 hinX5 rfl dX5_keep_27 ?_
      refine v_bipush C dX5_keep_30 (by decide) ?_
      refine v_iload_n C 1 dX5_keep_32 rfl ?_
      refine v_imul C dX5_keep_33 ?_
      refine v_cS_v C (As := [.ref (a (6)), .int (iI (0)), .ref (a (8)), .int (iI (98 * k))]) (rest := []) (c_X5_copies_nk l D yc t1 t2 a A g 0 (98 * k) (by omega) (by omega)) (va_cwS 4 C.hts gX5_keep_X5_copies rfl rfl rfl (by decide +kernel) ⟨by decide, by decide⟩) rfl rfl (Nat.le_of_ble_eq_true rfl) dX5_keep_34 ?_
      intro g9 h9
      rw [h9]
      clear h9 g9
      try dsimp only
      refine v_aload_n C 0 dX5_keep_37 rfl ?_
      refine v_getf C (by omega) (by omega) ct_mod rfl 8 (by decide) wf34 hinX5 rfl dX5_keep_38 ?_
      refine v_iload_n C 1 dX5_keep_41 rfl ?_
      refine v_iconst C dX5_keep_42 ?_
      refine v_zastore C (ctm_L a yc) (by omega) (by omega) ct_misKept (ct_misKept).symm (by omega) (by omega) (by omega) (by decide) dX5_keep_43 ?_
      refine v_aload_n C 0 dX5_keep_44 rfl ?_
      refine v_getf C (by omega) (by omega) ct_mod rfl 5 (by decide) wf25 hinX5 rfl dX5_keep_45 ?_
      refine v_iconst C dX5_keep_48 ?_
      refine v_iaload C (by omega) (by omega) ct_mnow (by omega) (by omega) (by decide) dX5_keep_49 ?_
      refine v_st (st' := [.int (iI (((cpf g 8 (98 * k) 98 (fun x => g 6 (0 + x)))) (6) (4)))]) (by rw [mu_ne (show 6 ≠ 9 by omega)]) ?_
      refine v_st (st' := [.int (iI (g 6 4))]) (by rw [cpf_o (by decide)]) ?_
      exact v_ret_i C rfl dX5_keep_50 ⟨(by repeat (first | rfl | rw [if_pos (by omega)] | rw [if_neg (by omega)])), (by repeat (first | rfl | rw [if_pos (by omega)] | rw [if_neg (by omega)]))⟩
    · skip
      refine v_bipush C dX5_keep_18 (by decide) ?_
      exact v_ret_i C rfl dX5_keep_20 ⟨(by repeat (first | rfl | rw [if_pos (by omega)] | rw [if_neg (by omega)])), (by repeat (first | rfl | rw [if_pos (by omega)] | rw [if_neg (by omega)]))⟩
  · skip
    refine v_iconst C dX5_keep_9 ?_
    exact v_ret_i C rfl dX5_keep_10 ⟨(by repeat (first | rfl | rw [if_pos (by omega)] | rw [if_neg (by omega)])), (by repeat (first | rfl | rw [if_pos (by omega)] | rw [if_neg (by omega)]))⟩

set_option maxRecDepth 100000 in
set_option maxHeartbeats 4000000 in
theorem c_X5_on (l : Launch) (D : va_G) (yc : Nat → ClassId) (t1 t2 : Nat) (a : Int → Nat) (A : Nat → Prop) (g : Mm) (k : Int) (hk : R32 k) (HM : MI g) : Ci l yX5_on wsX5_on { frames := 1, cells := 0, slots := 0, locals := 24 } D yc t1 t2 A (mw a yc) [.ref (a (0)), .int (iI (k))] g (fun r9 g' => r9 = (iI (if k < 0 ∨ 2 < k then -1 else if g 9 k = 0 then -3 else g 8 (98 * k + 4))) ∧ g' = (if k < 0 ∨ 2 < k then g else if g 9 k = 0 then fnM g 1 else cpf g 6 0 98 (fun x => g 8 (98 * k + x)))) := by
  refine start_i (cc := cX5_on) (nL := 2) (ret := (some .int)) (own := RX5) (by decide +kernel) rfl rfl (Nat.le_of_ble_eq_true rfl) ?_
  intro p e s m9 below meth c9 C
  have wf34 : Cond.fieldLink RX5 34 (TX5 8).1 (TX5 8).2.1 (TX5 8).2.2.1 ∈ wsX5_on := by decide +kernel
  have hinX5 : ∀ w ∈ u_ws RX5 TX5 17, w ∈ wsX5_on := by decide +kernel
  have wf31 : Cond.fieldLink RX5 31 (TX5 7).1 (TX5 7).2.1 (TX5 7).2.2.1 ∈ wsX5_on := by decide +kernel
  have wf25 : Cond.fieldLink RX5 25 (TX5 5).1 (TX5 5).2.1 (TX5 5).2.2.1 ∈ wsX5_on := by decide +kernel
  have hk9 : 0 ≤ k → k < 3 → g 9 k = 0 ∨ g 9 k = 1 := fun a b => HM.kp a b
  refine v_lv (lv' := [(0, .ref (a (0))), (1, .int (iI (k)))]) rfl ?_
  refine v_iload_n C 1 dX5_on_0 rfl ?_
  refine v_iconst C dX5_on_1 ?_
  refine v_iconst C dX5_on_2 ?_
  refine v_cS_i C (As := [.int (iI (k)), .int (iI (0)), .int (iI (2))]) (rest := []) (c_X5_in l D yc t1 t2 A (mw a yc) g k 0 2 (by omega) (by omega) (by omega)) (va_cwS 3 C.hts gX5_on_X5_in rfl rfl rfl (by decide +kernel) ⟨by decide, by decide⟩) rfl rfl (Nat.le_of_ble_eq_true rfl) dX5_on_3 ?_
  intro r9 g9 h9
  rw [h9.1, h9.2]
  clear h9 g9 r9
  try dsimp only
  refine v_ifb_ne (tgt := 11) C dX5_on_6 (by decide) (fun c6 => ?_) (fun c6 => ?_)
  · skip
    refine v_aload_n C 0 dX5_on_11 rfl ?_
    refine v_getf C (by omega) (by omega) ct_mod rfl 8 (by decide) wf34 hinX5 rfl dX5_on_12 ?_
    refine v_iload_n C 1 dX5_on_15 rfl ?_
    refine v_zaload C (by omega) (by omega) ct_misKept (by omega) (by omega) (by decide) dX5_on_16 ?_
    have hk8 := hk9 (by omega) (by omega)
    refine v_if_ne (tgt := 26) C dX5_on_17 (by decide) (by omega) (fun c17 => ?_) (fun c17 => ?_)
    · skip
      refine v_aload_n C 0 dX5_on_26 rfl ?_
      refine v_getf C (by omega) (by omega) ct_mod rfl 7 (by decide) wf31 hinX5 rfl dX5_on_27 ?_
      refine v_bipush C dX5_on_30 (by decide) ?_
      refine v_iload_n C 1 dX5_on_32 rfl ?_
      refine v_imul C dX5_on_33 ?_
      refine v_aload_n C 0 dX5_on_34 rfl ?_
      refine v_getf C (by omega) (by omega) ct_mod rfl 5 (by decide) wf25 hinX5 rfl dX5_on_35 ?_
      refine v_iconst C dX5_on_38 ?_
      refine v_cS_v C (As := [.ref (a (8)), .int (iI (98 * k)), .ref (a (6)), .int (iI (0))]) (rest := []) (c_X5_copies_kn l D yc t1 t2 a A g (98 * k) 0 (by omega) (by omega)) (va_cwS 4 C.hts gX5_on_X5_copies rfl rfl rfl (by decide +kernel) ⟨by decide, by decide⟩) rfl rfl (Nat.le_of_ble_eq_true rfl) dX5_on_39 ?_
      intro g9 h9
      rw [h9]
      clear h9 g9
      try dsimp only
      refine v_aload_n C 0 dX5_on_42 rfl ?_
      refine v_getf C (by omega) (by omega) ct_mod rfl 5 (by decide) wf25 hinX5 rfl dX5_on_43 ?_
      refine v_iconst C dX5_on_46 ?_
      refine v_iaload C (by omega) (by omega) ct_mnow (by omega) (by omega) (by decide) dX5_on_47 ?_
      refine v_st (st' := [.int (iI (g 8 (98 * k + 4)))]) (by unfold cpf; rw [if_pos ⟨rfl, by omega, by omega⟩]; rfl) ?_
      exact v_ret_i C rfl dX5_on_48 ⟨(by repeat (first | rfl | rw [if_pos (by omega)] | rw [if_neg (by omega)])), (by repeat (first | rfl | rw [if_pos (by omega)] | rw [if_neg (by omega)]))⟩
    · skip
      refine v_aload_n C 0 dX5_on_20 rfl ?_
      refine v_iconst C dX5_on_21 ?_
      refine v_cV_i C (As := [.int (iI (1))]) (rest := []) (c_X5_finds l D yc t1 t2 a A g 1 (by omega)) (cwV 1 C.hts gX5_on_X5_finds rfl rfl rfl (by decide +kernel) ⟨by decide, by decide⟩) (fun H hP => va_recv C.hK hP (ci := 5) (q0 := (0 : Int).toNat) rfl (wo_is (by omega) (by omega) ct_mod)) rfl rfl (Nat.le_of_ble_eq_true rfl) dX5_on_22 ?_
      intro r9 g9 h9
      rw [h9.1, h9.2]
      clear h9 g9 r9
      try dsimp only
      exact v_ret_i C rfl dX5_on_25 ⟨(by repeat (first | rfl | rw [if_pos (by omega)] | rw [if_neg (by omega)])), (by repeat (first | rfl | rw [if_pos (by omega)] | rw [if_neg (by omega)]))⟩
  · skip
    refine v_iconst C dX5_on_9 ?_
    exact v_ret_i C rfl dX5_on_10 ⟨(by repeat (first | rfl | rw [if_pos (by omega)] | rw [if_neg (by omega)])), (by repeat (first | rfl | rw [if_pos (by omega)] | rw [if_neg (by omega)]))⟩

set_option maxRecDepth 100000 in
set_option maxHeartbeats 4000000 in
theorem c_X5_farmOn (l : Launch) (D : va_G) (yc : Nat → ClassId) (t1 t2 : Nat) (a : Int → Nat) (A : Nat → Prop) (g : Mm) (d : Int) (HI : FI (g 6)) (ht : 0 < g 6 1) (hd : 0 ≤ d ∧ d < 2147483648) : Ci l yX5_farmOn wsX5_farmOn { frames := 0, cells := 0, slots := 0, locals := 0 } D yc t1 t2 A (mw a yc) [.ref (a (0)), .int (iI (d))] g (fun r9 g' => r9 = (iI (fOn (g 6) d)) ∧ g' = g) := by
  refine start_i (cc := cX5_farmOn) (nL := 2) (ret := (some .int)) (own := RX5) (by decide +kernel) rfl rfl (Nat.le_of_ble_eq_true rfl) ?_
  intro p e s m9 below meth c9 C
  have wf25 : Cond.fieldLink RX5 25 (TX5 5).1 (TX5 5).2.1 (TX5 5).2.2.1 ∈ wsX5_farmOn := by decide +kernel
  have hinX5 : ∀ w ∈ u_ws RX5 TX5 17, w ∈ wsX5_farmOn := by decide +kernel
  have hn := HI.n
  have hm := emd (d := d) ht
  refine v_lv (lv' := [(0, .ref (a (0))), (1, .int (iI (d)))]) rfl ?_
  refine v_aload_n C 0 dX5_farmOn_0 rfl ?_
  refine v_getf C (by omega) (by omega) ct_mod rfl 5 (by decide) wf25 hinX5 rfl dX5_farmOn_1 ?_
  refine v_bipush C dX5_farmOn_4 (by decide) ?_
  refine v_iload_n C 1 dX5_farmOn_6 rfl ?_
  refine v_aload_n C 0 dX5_farmOn_7 rfl ?_
  refine v_getf C (by omega) (by omega) ct_mod rfl 5 (by decide) wf25 hinX5 rfl dX5_farmOn_8 ?_
  refine v_iconst C dX5_farmOn_11 ?_
  refine v_iaload C (by omega) (by omega) ct_mnow (by omega) (by omega) (by decide) dX5_farmOn_12 ?_
  refine v_irem C dX5_farmOn_13 (by omega) (by omega) (by omega) (by omega) ?_
  refine v_iadd C dX5_farmOn_14 ?_
  refine v_iaload C (by omega) (by omega) ct_mnow (by omega) (by omega) (by decide) dX5_farmOn_15 ?_
  exact v_ret_i C rfl dX5_farmOn_16 ⟨rfl, rfl⟩

set_option maxRecDepth 100000 in
set_option maxHeartbeats 4000000 in
theorem c_X5_milkOn (l : Launch) (D : va_G) (yc : Nat → ClassId) (t1 t2 : Nat) (a : Int → Nat) (A : Nat → Prop) (g : Mm) (d : Int) (HI : FI (g 6)) (ht : 0 < g 6 2) (hd : 0 ≤ d ∧ d < 2147483648) : Ci l yX5_milkOn wsX5_milkOn { frames := 0, cells := 0, slots := 0, locals := 0 } D yc t1 t2 A (mw a yc) [.ref (a (0)), .int (iI (d))] g (fun r9 g' => r9 = (iI (mOn (g 6) d)) ∧ g' = g) := by
  refine start_i (cc := cX5_milkOn) (nL := 2) (ret := (some .int)) (own := RX5) (by decide +kernel) rfl rfl (Nat.le_of_ble_eq_true rfl) ?_
  intro p e s m9 below meth c9 C
  have wf25 : Cond.fieldLink RX5 25 (TX5 5).1 (TX5 5).2.1 (TX5 5).2.2.1 ∈ wsX5_milkOn := by decide +kernel
  have hinX5 : ∀ w ∈ u_ws RX5 TX5 17, w ∈ wsX5_milkOn := by decide +kernel
  have hn := HI.n
  have hm := emd (d := d) ht
  refine v_lv (lv' := [(0, .ref (a (0))), (1, .int (iI (d)))]) rfl ?_
  refine v_aload_n C 0 dX5_milkOn_0 rfl ?_
  refine v_getf C (by omega) (by omega) ct_mod rfl 5 (by decide) wf25 hinX5 rfl dX5_milkOn_1 ?_
  refine v_bipush C dX5_milkOn_4 (by decide) ?_
  refine v_iload_n C 1 dX5_milkOn_6 rfl ?_
  refine v_aload_n C 0 dX5_milkOn_7 rfl ?_
  refine v_getf C (by omega) (by omega) ct_mod rfl 5 (by decide) wf25 hinX5 rfl dX5_milkOn_8 ?_
  refine v_iconst C dX5_milkOn_11 ?_
  refine v_iaload C (by omega) (by omega) ct_mnow (by omega) (by omega) (by decide) dX5_milkOn_12 ?_
  refine v_irem C dX5_milkOn_13 (by omega) (by omega) (by omega) (by omega) ?_
  refine v_iadd C dX5_milkOn_14 ?_
  refine v_iaload C (by omega) (by omega) ct_mnow (by omega) (by omega) (by decide) dX5_milkOn_15 ?_
  exact v_ret_i C rfl dX5_milkOn_16 ⟨rfl, rfl⟩

set_option maxRecDepth 100000 in
set_option maxHeartbeats 4000000 in
theorem c_X5_where (l : Launch) (D : va_G) (yc : Nat → ClassId) (t1 t2 : Nat) (a : Int → Nat) (A : Nat → Prop) (g : Mm) (d : Int) (hd : R32 d) (HI : FI (g 6)) : Ci l yX5_where wsX5_where { frames := 2, cells := 0, slots := 0, locals := 42 } D yc t1 t2 A (mw a yc) [.ref (a (0)), .int (iI (d))] g (fun r9 g' => r9 = (iI (if d < 0 ∨ 999 < d then -1 else if g 6 0 = 0 then -4 else fOn (g 6) d)) ∧ g' = g) := by
  refine start_i (cc := cX5_where) (nL := 2) (ret := (some .int)) (own := RX5) (by decide +kernel) rfl rfl (Nat.le_of_ble_eq_true rfl) ?_
  intro p e s m9 below meth c9 C
  have hn := HI.n
  refine v_lv (lv' := [(0, .ref (a (0))), (1, .int (iI (d)))]) rfl ?_
  refine v_iload_n C 1 dX5_where_0 rfl ?_
  refine v_cS_i C (As := [.int (iI (d))]) (rest := []) (c_X5_isDay l D yc t1 t2 A (mw a yc) g d (by omega)) (va_cwS 1 C.hts gX5_where_X5_isDay rfl rfl rfl (by decide +kernel) ⟨by decide, by decide⟩) rfl rfl (Nat.le_of_ble_eq_true rfl) dX5_where_1 ?_
  intro r9 g9 h9
  rw [h9.1, h9.2]
  clear h9 g9 r9
  try dsimp only
  refine v_ifb_ne (tgt := 9) C dX5_where_4 (by decide) (fun c4 => ?_) (fun c4 => ?_)
  · skip
    refine v_aload_n C 0 dX5_where_9 rfl ?_
    refine v_cV_i C (As := []) (rest := []) (c_X5_are l D yc t1 t2 a A g HI) (cwV 0 C.hts gX5_where_X5_are rfl rfl rfl (by decide +kernel) ⟨by decide, by decide⟩) (fun H hP => va_recv C.hK hP (ci := 5) (q0 := (0 : Int).toNat) rfl (wo_is (by omega) (by omega) ct_mod)) rfl rfl (Nat.le_of_ble_eq_true rfl) dX5_where_10 ?_
    intro r9 g9 h9
    rw [h9.1, h9.2]
    clear h9 g9 r9
    try dsimp only
    refine v_ifb_eq (tgt := 24) C dX5_where_13 (by decide) (fun c13 => ?_) (fun c13 => ?_)
    · skip
      refine v_bipush C dX5_where_24 (by decide) ?_
      exact v_ret_i C rfl dX5_where_26 ⟨(by repeat (first | rfl | rw [if_pos (by omega)] | rw [if_neg (by omega)])), rfl⟩
    · skip
      refine v_aload_n C 0 dX5_where_16 rfl ?_
      refine v_iload_n C 1 dX5_where_17 rfl ?_
      refine v_cV_i C (As := [.int (iI (d))]) (rest := []) (c_X5_farmOn l D yc t1 t2 a A g d HI (by omega) (by omega)) (cwV 1 C.hts gX5_where_X5_farmOn rfl rfl rfl (by decide +kernel) ⟨by decide, by decide⟩) (fun H hP => va_recv C.hK hP (ci := 5) (q0 := (0 : Int).toNat) rfl (wo_is (by omega) (by omega) ct_mod)) rfl rfl (Nat.le_of_ble_eq_true rfl) dX5_where_18 ?_
      intro r9 g9 h9
      rw [h9.1, h9.2]
      clear h9 g9 r9
      try dsimp only
      refine v_goto (tgt := 26) C dX5_where_21 (by decide) ?_
      exact v_ret_i C rfl dX5_where_26 ⟨(by repeat (first | rfl | rw [if_pos (by omega)] | rw [if_neg (by omega)])), rfl⟩
  · skip
    refine v_iconst C dX5_where_7 ?_
    exact v_ret_i C rfl dX5_where_8 ⟨(by repeat (first | rfl | rw [if_pos (by omega)] | rw [if_neg (by omega)])), rfl⟩

set_option maxRecDepth 100000 in
set_option maxHeartbeats 4000000 in
theorem c_X5_milkOf (l : Launch) (D : va_G) (yc : Nat → ClassId) (t1 t2 : Nat) (a : Int → Nat) (A : Nat → Prop) (g : Mm) (q b d : Int) (HI : FI (g 6)) (ht : 0 < g 6 1 ∧ 0 < g 6 2) (hb : 0 ≤ b ∧ b ≤ d + 1) (hd : d < 100000) (hq : R32 q) : Ci l yX5_milkOf wsX5_milkOf { frames := 1, cells := 0, slots := 0, locals := 21 } D yc t1 t2 A (mw a yc) [.ref (a (0)), .int (iI (q)), .int (iI (b)), .int (iI (d))] g (fun r9 g' => r9 = (iI (sI (fun x => mf (g 6) q (b + x)) (d + 1 - b))) ∧ g' = g) := by
  refine start_i (cc := cX5_milkOf) (nL := 6) (ret := (some .int)) (own := RX5) (by decide +kernel) rfl rfl (Nat.le_of_ble_eq_true rfl) ?_
  intro p e s m9 below meth c9 C
  have hn := HI.n
  refine v_lv (lv' := [(0, .ref (a (0))), (1, .int (iI (q))), (2, .int (iI (b))), (3, .int (iI (d)))]) rfl ?_
  refine v_iconst C dX5_milkOf_0 ?_
  refine v_istore (lv' := [(4, .int (iI (0))), (0, .ref (a (0))), (1, .int (iI (q))), (2, .int (iI (b))), (3, .int (iI (d)))]) C dX5_milkOf_1 (by decide) rfl ?_
  refine v_iload_n C 3 dX5_milkOf_3 rfl ?_
  refine v_istore (lv' := [(5, .int (iI (b))), (4, .int (iI (0))), (0, .ref (a (0))), (1, .int (iI (q))), (2, .int (iI (b))), (3, .int (iI (d)))]) C dX5_milkOf_4 (by decide) rfl ?_
  refine v_lv (congrArg (fun x9 => ([(5, .int (iI x9)), (4, .int (iI (0))), (0, .ref (a (0))), (1, .int (iI (q))), (2, .int (iI (b))), (3, .int (iI (d)))] : List (Nat × Value))) (show (b) = (b + 0) by first | rfl | omega | (simp; done))) ?_
  refine v_lv (congrArg (fun x9 => ([(5, .int (iI (b + 0))), (4, .int (iI x9)), (0, .ref (a (0))), (1, .int (iI (q))), (2, .int (iI (b))), (3, .int (iI (d)))] : List (Nat × Value))) (show (0) = (sI (fun x => mf (g 6) q (b + x)) 0) by first | rfl | omega | (simp; done))) ?_
  refine v_loop1 (fun (t : Int) => (d + 1 - b - t).toNat) (fun (t : Int) => 0 ≤ t ∧ t ≤ d + 1 - b) (fun (t : Int) => [(5, .int (iI (b + t))), (4, .int (iI (sI (fun x => mf (g 6) q (b + x)) t))), (0, .ref (a (0))), (1, .int (iI (q))), (2, .int (iI (b))), (3, .int (iI (d)))]) (fun (t : Int) => g) ?_ 0 (by omega)
  intro t hI6 ih6
  try dsimp only at ih6 ⊢
  refine v_iload C 0 dX5_milkOf_6 rfl ?_
  refine v_iload_n C 5 dX5_milkOf_8 rfl ?_
  refine v_icmp_gt (tgt := 43) C dX5_milkOf_9 (by decide) (by omega) (by omega) (fun c9 => ?_) (fun c9 => ?_)
  · skip
    refine v_iload C 1 dX5_milkOf_43 rfl ?_
    exact v_ret_i C rfl dX5_milkOf_45 ⟨(by rw [show t = d + 1 - b by omega]), rfl⟩
  · skip
    refine v_iload C 1 dX5_milkOf_12 rfl ?_
    refine v_aload_n C 2 dX5_milkOf_14 rfl ?_
    refine v_iload C 0 dX5_milkOf_15 rfl ?_
    refine v_cV_i C (As := [.int (iI (b + t))]) (rest := [.int (iI (sI (fun x => mf (g 6) q (b + x)) t))]) (c_X5_farmOn l D yc t1 t2 a A g (b + t) HI (by omega) (by omega)) (cwV 1 C.hts gX5_milkOf_X5_farmOn rfl rfl rfl (by decide +kernel) ⟨by decide, by decide⟩) (fun H hP => va_recv C.hK hP (ci := 5) (q0 := (0 : Int).toNat) rfl (wo_is (by omega) (by omega) ct_mod)) rfl rfl (Nat.le_of_ble_eq_true rfl) dX5_milkOf_17 ?_
    intro r9 g9 h9
    rw [h9.1, h9.2]
    clear h9 g9 r9
    try dsimp only
    have h01 := fOn01 HI ht.1 (b + t)
    refine v_iload_n C 3 dX5_milkOf_20 rfl ?_
    refine v_icmp_ne (tgt := 33) C dX5_milkOf_21 (by decide) (by omega) (by omega) (fun c21 => ?_) (fun c21 => ?_)
    · skip
      refine v_iconst C dX5_milkOf_33 ?_
      refine v_iadd C dX5_milkOf_34 ?_
      refine v_istore (lv' := [(4, .int (iI ((sI (fun x => mf (g 6) q (b + x)) t) + 0))), (5, .int (iI (b + t))), (0, .ref (a (0))), (1, .int (iI (q))), (2, .int (iI (b))), (3, .int (iI (d)))]) C dX5_milkOf_35 (by decide) rfl ?_
      refine v_iinc (z' := b + t + 1) (lv' := [(5, .int (iI (b + t + 1))), (4, .int (iI ((sI (fun x => mf (g 6) q (b + x)) t) + 0))), (0, .ref (a (0))), (1, .int (iI (q))), (2, .int (iI (b))), (3, .int (iI (d)))]) C 1 dX5_milkOf_37 rfl (by omega) (by decide) rfl ?_
      refine v_goto (tgt := 6) C dX5_milkOf_40 (by decide) ?_
      refine v_lv (congrArg (fun x9 => ([(5, .int (iI x9)), (4, .int (iI ((sI (fun x => mf (g 6) q (b + x)) t) + 0))), (0, .ref (a (0))), (1, .int (iI (q))), (2, .int (iI (b))), (3, .int (iI (d)))] : List (Nat × Value))) (show (b + t + 1) = (b + (t + 1)) by first | rfl | (omega))) ?_
      refine v_lv (congrArg (fun x9 => ([(5, .int (iI (b + (t + 1)))), (4, .int (iI x9)), (0, .ref (a (0))), (1, .int (iI (q))), (2, .int (iI (b))), (3, .int (iI (d)))] : List (Nat × Value))) (show ((sI (fun x => mf (g 6) q (b + x)) t) + 0) = (sI (fun x => mf (g 6) q (b + x)) (t + 1)) by first | rfl | (rw [sI_s _ (by omega)]; simp [mf, *]))) ?_
      exact ih6 (t + 1) (by omega) (by omega)
    · skip
      refine v_aload_n C 2 dX5_milkOf_24 rfl ?_
      refine v_iload C 0 dX5_milkOf_25 rfl ?_
      refine v_cV_i C (As := [.int (iI (b + t))]) (rest := [.int (iI (sI (fun x => mf (g 6) q (b + x)) t))]) (c_X5_milkOn l D yc t1 t2 a A g (b + t) HI (by omega) (by omega)) (cwV 1 C.hts gX5_milkOf_X5_milkOn rfl rfl rfl (by decide +kernel) ⟨by decide, by decide⟩) (fun H hP => va_recv C.hK hP (ci := 5) (q0 := (0 : Int).toNat) rfl (wo_is (by omega) (by omega) ct_mod)) rfl rfl (Nat.le_of_ble_eq_true rfl) dX5_milkOf_27 ?_
      intro r9 g9 h9
      rw [h9.1, h9.2]
      clear h9 g9 r9
      try dsimp only
      refine v_goto (tgt := 34) C dX5_milkOf_30 (by decide) ?_
      refine v_iadd C dX5_milkOf_34 ?_
      refine v_istore (lv' := [(4, .int (iI ((sI (fun x => mf (g 6) q (b + x)) t) + (mOn (g 6) (b + t))))), (5, .int (iI (b + t))), (0, .ref (a (0))), (1, .int (iI (q))), (2, .int (iI (b))), (3, .int (iI (d)))]) C dX5_milkOf_35 (by decide) rfl ?_
      refine v_iinc (z' := b + t + 1) (lv' := [(5, .int (iI (b + t + 1))), (4, .int (iI ((sI (fun x => mf (g 6) q (b + x)) t) + (mOn (g 6) (b + t))))), (0, .ref (a (0))), (1, .int (iI (q))), (2, .int (iI (b))), (3, .int (iI (d)))]) C 1 dX5_milkOf_37 rfl (by omega) (by decide) rfl ?_
      refine v_goto (tgt := 6) C dX5_milkOf_40 (by decide) ?_
      refine v_lv (congrArg (fun x9 => ([(5, .int (iI x9)), (4, .int (iI ((sI (fun x => mf (g 6) q (b + x)) t) + (mOn (g 6) (b + t))))), (0, .ref (a (0))), (1, .int (iI (q))), (2, .int (iI (b))), (3, .int (iI (d)))] : List (Nat × Value))) (show (b + t + 1) = (b + (t + 1)) by first | rfl | (omega))) ?_
      refine v_lv (congrArg (fun x9 => ([(5, .int (iI (b + (t + 1)))), (4, .int (iI x9)), (0, .ref (a (0))), (1, .int (iI (q))), (2, .int (iI (b))), (3, .int (iI (d)))] : List (Nat × Value))) (show ((sI (fun x => mf (g 6) q (b + x)) t) + (mOn (g 6) (b + t))) = (sI (fun x => mf (g 6) q (b + x)) (t + 1)) by first | rfl | (rw [sI_s _ (by omega)]; simp [mf, *]))) ?_
      exact ih6 (t + 1) (by omega) (by omega)

set_option maxRecDepth 100000 in
set_option maxHeartbeats 4000000 in
theorem c_X5_milk (l : Launch) (D : va_G) (yc : Nat → ClassId) (t1 t2 : Nat) (a : Int → Nat) (A : Nat → Prop) (g : Mm) (q b d : Int) (hq : R32 q) (hb : R32 b) (hd : R32 d) (HI : FI (g 6)) : Ci l yX5_milk wsX5_milk { frames := 2, cells := 0, slots := 0, locals := 46 } D yc t1 t2 A (mw a yc) [.ref (a (0)), .int (iI (q)), .int (iI (b)), .int (iI (d))] g (fun r9 g' => r9 = (iI (if (q < 0 ∨ 1 < q) ∨ (b < 0 ∨ 999 < b) ∨ (d < 0 ∨ 999 < d) ∨ d < b then -1 else if g 6 0 = 0 then -4 else sI (fun x => mf (g 6) q (b + x)) (d + 1 - b))) ∧ g' = g) := by
  refine start_i (cc := cX5_milk) (nL := 4) (ret := (some .int)) (own := RX5) (by decide +kernel) rfl rfl (Nat.le_of_ble_eq_true rfl) ?_
  intro p e s m9 below meth c9 C
  have hn := HI.n
  refine v_lv (lv' := [(0, .ref (a (0))), (1, .int (iI (q))), (2, .int (iI (b))), (3, .int (iI (d)))]) rfl ?_
  refine v_iload_n C 1 dX5_milk_0 rfl ?_
  refine v_iconst C dX5_milk_1 ?_
  refine v_iconst C dX5_milk_2 ?_
  refine v_cS_i C (As := [.int (iI (q)), .int (iI (0)), .int (iI (1))]) (rest := []) (c_X5_in l D yc t1 t2 A (mw a yc) g q 0 1 (by omega) (by omega) (by omega)) (va_cwS 3 C.hts gX5_milk_X5_in rfl rfl rfl (by decide +kernel) ⟨by decide, by decide⟩) rfl rfl (Nat.le_of_ble_eq_true rfl) dX5_milk_3 ?_
  intro r9 g9 h9
  rw [h9.1, h9.2]
  clear h9 g9 r9
  try dsimp only
  refine v_ifb_eq (tgt := 28) C dX5_milk_6 (by decide) (fun c6 => ?_) (fun c6 => ?_)
  · skip
    refine v_iconst C dX5_milk_28 ?_
    exact v_ret_i C rfl dX5_milk_29 ⟨(by repeat (first | rfl | rw [if_pos (by omega)] | rw [if_neg (by omega)])), rfl⟩
  · skip
    refine v_iload_n C 2 dX5_milk_9 rfl ?_
    refine v_cS_i C (As := [.int (iI (b))]) (rest := []) (c_X5_isDay l D yc t1 t2 A (mw a yc) g b (by omega)) (va_cwS 1 C.hts gX5_milk_X5_isDay rfl rfl rfl (by decide +kernel) ⟨by decide, by decide⟩) rfl rfl (Nat.le_of_ble_eq_true rfl) dX5_milk_10 ?_
    intro r9 g9 h9
    rw [h9.1, h9.2]
    clear h9 g9 r9
    try dsimp only
    refine v_ifb_eq (tgt := 28) C dX5_milk_13 (by decide) (fun c13 => ?_) (fun c13 => ?_)
    · skip
      refine v_iconst C dX5_milk_28 ?_
      exact v_ret_i C rfl dX5_milk_29 ⟨(by repeat (first | rfl | rw [if_pos (by omega)] | rw [if_neg (by omega)])), rfl⟩
    · skip
      refine v_iload_n C 3 dX5_milk_16 rfl ?_
      refine v_cS_i C (As := [.int (iI (d))]) (rest := []) (c_X5_isDay l D yc t1 t2 A (mw a yc) g d (by omega)) (va_cwS 1 C.hts gX5_milk_X5_isDay rfl rfl rfl (by decide +kernel) ⟨by decide, by decide⟩) rfl rfl (Nat.le_of_ble_eq_true rfl) dX5_milk_17 ?_
      intro r9 g9 h9
      rw [h9.1, h9.2]
      clear h9 g9 r9
      try dsimp only
      refine v_ifb_eq (tgt := 28) C dX5_milk_20 (by decide) (fun c20 => ?_) (fun c20 => ?_)
      · skip
        refine v_iconst C dX5_milk_28 ?_
        exact v_ret_i C rfl dX5_milk_29 ⟨(by repeat (first | rfl | rw [if_pos (by omega)] | rw [if_neg (by omega)])), rfl⟩
      · skip
        refine v_iload_n C 3 dX5_milk_23 rfl ?_
        refine v_iload_n C 2 dX5_milk_24 rfl ?_
        refine v_icmp_ge (tgt := 30) C dX5_milk_25 (by decide) (by omega) (by omega) (fun c25 => ?_) (fun c25 => ?_)
        · skip
          refine v_aload_n C 0 dX5_milk_30 rfl ?_
          refine v_cV_i C (As := []) (rest := []) (c_X5_are l D yc t1 t2 a A g HI) (cwV 0 C.hts gX5_milk_X5_are rfl rfl rfl (by decide +kernel) ⟨by decide, by decide⟩) (fun H hP => va_recv C.hK hP (ci := 5) (q0 := (0 : Int).toNat) rfl (wo_is (by omega) (by omega) ct_mod)) rfl rfl (Nat.le_of_ble_eq_true rfl) dX5_milk_31 ?_
          intro r9 g9 h9
          rw [h9.1, h9.2]
          clear h9 g9 r9
          try dsimp only
          refine v_ifb_eq (tgt := 47) C dX5_milk_34 (by decide) (fun c34 => ?_) (fun c34 => ?_)
          · skip
            refine v_bipush C dX5_milk_47 (by decide) ?_
            exact v_ret_i C rfl dX5_milk_49 ⟨(by repeat (first | rfl | rw [if_pos (by omega)] | rw [if_neg (by omega)])), rfl⟩
          · skip
            refine v_aload_n C 0 dX5_milk_37 rfl ?_
            refine v_iload_n C 1 dX5_milk_38 rfl ?_
            refine v_iload_n C 2 dX5_milk_39 rfl ?_
            refine v_iload_n C 3 dX5_milk_40 rfl ?_
            refine v_cV_i C (As := [.int (iI (q)), .int (iI (b)), .int (iI (d))]) (rest := []) (c_X5_milkOf l D yc t1 t2 a A g q b d HI (by omega) (by omega) (by omega) (by omega)) (cwV 3 C.hts gX5_milk_X5_milkOf rfl rfl rfl (by decide +kernel) ⟨by decide, by decide⟩) (fun H hP => va_recv C.hK hP (ci := 5) (q0 := (0 : Int).toNat) rfl (wo_is (by omega) (by omega) ct_mod)) rfl rfl (Nat.le_of_ble_eq_true rfl) dX5_milk_41 ?_
            intro r9 g9 h9
            rw [h9.1, h9.2]
            clear h9 g9 r9
            try dsimp only
            refine v_goto (tgt := 49) C dX5_milk_44 (by decide) ?_
            exact v_ret_i C rfl dX5_milk_49 ⟨(by repeat (first | rfl | rw [if_pos (by omega)] | rw [if_neg (by omega)])), rfl⟩
        · skip
          refine v_iconst C dX5_milk_28 ?_
          exact v_ret_i C rfl dX5_milk_29 ⟨(by repeat (first | rfl | rw [if_pos (by omega)] | rw [if_neg (by omega)])), rfl⟩

set_option maxRecDepth 100000 in
set_option maxHeartbeats 4000000 in
theorem c_X5_walks (l : Launch) (D : va_G) (yc : Nat → ClassId) (t1 t2 : Nat) (a : Int → Nat) (A : Nat → Prop) (g : Mm) (d : Int) (hd : R32 d) (HI : FI (g 6)) : Ci l yX5_walks wsX5_walks { frames := 2, cells := 0, slots := 0, locals := 42 } D yc t1 t2 A (mw a yc) [.ref (a (0)), .int (iI (d))] g (fun r9 g' => r9 = (iI (if d < 0 ∨ 999 < d then -1 else if g 6 0 = 0 then -4 else sI (wk (g 6)) d)) ∧ g' = g) := by
  refine start_i (cc := cX5_walks) (nL := 4) (ret := (some .int)) (own := RX5) (by decide +kernel) rfl rfl (Nat.le_of_ble_eq_true rfl) ?_
  intro p e s m9 below meth c9 C
  have hn := HI.n
  refine v_lv (lv' := [(0, .ref (a (0))), (1, .int (iI (d)))]) rfl ?_
  refine v_iload_n C 1 dX5_walks_0 rfl ?_
  refine v_cS_i C (As := [.int (iI (d))]) (rest := []) (c_X5_isDay l D yc t1 t2 A (mw a yc) g d (by omega)) (va_cwS 1 C.hts gX5_walks_X5_isDay rfl rfl rfl (by decide +kernel) ⟨by decide, by decide⟩) rfl rfl (Nat.le_of_ble_eq_true rfl) dX5_walks_1 ?_
  intro r9 g9 h9
  rw [h9.1, h9.2]
  clear h9 g9 r9
  try dsimp only
  refine v_ifb_ne (tgt := 9) C dX5_walks_4 (by decide) (fun c4 => ?_) (fun c4 => ?_)
  · skip
    refine v_aload_n C 0 dX5_walks_9 rfl ?_
    refine v_cV_i C (As := []) (rest := []) (c_X5_are l D yc t1 t2 a A g HI) (cwV 0 C.hts gX5_walks_X5_are rfl rfl rfl (by decide +kernel) ⟨by decide, by decide⟩) (fun H hP => va_recv C.hK hP (ci := 5) (q0 := (0 : Int).toNat) rfl (wo_is (by omega) (by omega) ct_mod)) rfl rfl (Nat.le_of_ble_eq_true rfl) dX5_walks_10 ?_
    intro r9 g9 h9
    rw [h9.1, h9.2]
    clear h9 g9 r9
    try dsimp only
    refine v_ifb_ne (tgt := 19) C dX5_walks_13 (by decide) (fun c13 => ?_) (fun c13 => ?_)
    · skip
      refine v_iconst C dX5_walks_19 ?_
      refine v_istore_n (lv' := [(2, .int (iI (0))), (0, .ref (a (0))), (1, .int (iI (d)))]) C dX5_walks_20 (by decide) rfl ?_
      refine v_iconst C dX5_walks_21 ?_
      refine v_istore_n (lv' := [(3, .int (iI (1))), (2, .int (iI (0))), (0, .ref (a (0))), (1, .int (iI (d)))]) C dX5_walks_22 (by decide) rfl ?_
      refine v_lv (congrArg (fun x9 => ([(3, .int (iI x9)), (2, .int (iI (0))), (0, .ref (a (0))), (1, .int (iI (d)))] : List (Nat × Value))) (show (1) = (0 + 1) by first | rfl | omega | (simp; done))) ?_
      refine v_lv (congrArg (fun x9 => ([(3, .int (iI (0 + 1))), (2, .int (iI x9)), (0, .ref (a (0))), (1, .int (iI (d)))] : List (Nat × Value))) (show (0) = (sI (wk (g 6)) 0) by first | rfl | omega | (simp; done))) ?_
      refine v_loop1 (fun (t : Int) => (d - t).toNat) (fun (t : Int) => 0 ≤ t ∧ t ≤ d) (fun (t : Int) => [(3, .int (iI (t + 1))), (2, .int (iI (sI (wk (g 6)) t))), (0, .ref (a (0))), (1, .int (iI (d)))]) (fun (t : Int) => g) ?_ 0 (by omega)
      intro t hI23 ih23
      try dsimp only at ih23 ⊢
      refine v_iload_n C 0 dX5_walks_23 rfl ?_
      refine v_iload_n C 3 dX5_walks_24 rfl ?_
      refine v_icmp_gt (tgt := 57) C dX5_walks_25 (by decide) (by omega) (by omega) (fun c25 => ?_) (fun c25 => ?_)
      · skip
        refine v_iload_n C 1 dX5_walks_57 rfl ?_
        exact v_ret_i C rfl dX5_walks_58 ⟨(by rw [show t = d by omega]; repeat (first | rfl | rw [if_pos (by omega)] | rw [if_neg (by omega)])), rfl⟩
      · skip
        refine v_iload_n C 1 dX5_walks_28 rfl ?_
        refine v_aload_n C 2 dX5_walks_29 rfl ?_
        refine v_iload_n C 0 dX5_walks_30 rfl ?_
        refine v_cV_i C (As := [.int (iI (t + 1))]) (rest := [.int (iI (sI (wk (g 6)) t))]) (c_X5_farmOn l D yc t1 t2 a A g (t + 1) HI (by omega) (by omega)) (cwV 1 C.hts gX5_walks_X5_farmOn rfl rfl rfl (by decide +kernel) ⟨by decide, by decide⟩) (fun H hP => va_recv C.hK hP (ci := 5) (q0 := (0 : Int).toNat) rfl (wo_is (by omega) (by omega) ct_mod)) rfl rfl (Nat.le_of_ble_eq_true rfl) dX5_walks_31 ?_
        intro r9 g9 h9
        rw [h9.1, h9.2]
        clear h9 g9 r9
        try dsimp only
        refine v_aload_n C 2 dX5_walks_34 rfl ?_
        refine v_iload_n C 0 dX5_walks_35 rfl ?_
        refine v_iconst C dX5_walks_36 ?_
        refine v_isub C dX5_walks_37 ?_
        refine v_st (st' := [.int (iI (t)), .ref (a (0)), .int (iI (fOn (g 6) (t + 1))), .int (iI (sI (wk (g 6)) t))]) (by rw [show t + 1 - 1 = t by omega]) ?_
        refine v_cV_i C (As := [.int (iI (t))]) (rest := [.int (iI (fOn (g 6) (t + 1))), .int (iI (sI (wk (g 6)) t))]) (c_X5_farmOn l D yc t1 t2 a A g t HI (by omega) (by omega)) (cwV 1 C.hts gX5_walks_X5_farmOn rfl rfl rfl (by decide +kernel) ⟨by decide, by decide⟩) (fun H hP => va_recv C.hK hP (ci := 5) (q0 := (0 : Int).toNat) rfl (wo_is (by omega) (by omega) ct_mod)) rfl rfl (Nat.le_of_ble_eq_true rfl) dX5_walks_38 ?_
        intro r9 g9 h9
        rw [h9.1, h9.2]
        clear h9 g9 r9
        try dsimp only
        have h01 := fOn01 HI (by omega) t
        have h02 := fOn01 HI (by omega) (t + 1)
        refine v_icmp_ne (tgt := 48) C dX5_walks_41 (by decide) (by omega) (by omega) (fun c41 => ?_) (fun c41 => ?_)
        · skip
          refine v_iconst C dX5_walks_48 ?_
          refine v_iadd C dX5_walks_49 ?_
          refine v_istore_n (lv' := [(2, .int (iI ((sI (wk (g 6)) t) + 1))), (3, .int (iI (t + 1))), (0, .ref (a (0))), (1, .int (iI (d)))]) C dX5_walks_50 (by decide) rfl ?_
          refine v_iinc (z' := t + 1 + 1) (lv' := [(3, .int (iI (t + 1 + 1))), (2, .int (iI ((sI (wk (g 6)) t) + 1))), (0, .ref (a (0))), (1, .int (iI (d)))]) C 1 dX5_walks_51 rfl (by omega) (by decide) rfl ?_
          refine v_goto (tgt := 23) C dX5_walks_54 (by decide) ?_
          refine v_lv (congrArg (fun x9 => ([(3, .int (iI x9)), (2, .int (iI ((sI (wk (g 6)) t) + 1))), (0, .ref (a (0))), (1, .int (iI (d)))] : List (Nat × Value))) (show (t + 1 + 1) = ((t + 1) + 1) by first | rfl | (omega))) ?_
          refine v_lv (congrArg (fun x9 => ([(3, .int (iI ((t + 1) + 1))), (2, .int (iI x9)), (0, .ref (a (0))), (1, .int (iI (d)))] : List (Nat × Value))) (show ((sI (wk (g 6)) t) + 1) = (sI (wk (g 6)) (t + 1)) by first | rfl | (rw [sI_s _ (by omega)]; unfold wk; simp [*]))) ?_
          exact ih23 (t + 1) (by omega) (by omega)
        · skip
          refine v_iconst C dX5_walks_44 ?_
          refine v_goto (tgt := 49) C dX5_walks_45 (by decide) ?_
          refine v_iadd C dX5_walks_49 ?_
          refine v_istore_n (lv' := [(2, .int (iI ((sI (wk (g 6)) t) + 0))), (3, .int (iI (t + 1))), (0, .ref (a (0))), (1, .int (iI (d)))]) C dX5_walks_50 (by decide) rfl ?_
          refine v_iinc (z' := t + 1 + 1) (lv' := [(3, .int (iI (t + 1 + 1))), (2, .int (iI ((sI (wk (g 6)) t) + 0))), (0, .ref (a (0))), (1, .int (iI (d)))]) C 1 dX5_walks_51 rfl (by omega) (by decide) rfl ?_
          refine v_goto (tgt := 23) C dX5_walks_54 (by decide) ?_
          refine v_lv (congrArg (fun x9 => ([(3, .int (iI x9)), (2, .int (iI ((sI (wk (g 6)) t) + 0))), (0, .ref (a (0))), (1, .int (iI (d)))] : List (Nat × Value))) (show (t + 1 + 1) = ((t + 1) + 1) by first | rfl | (omega))) ?_
          refine v_lv (congrArg (fun x9 => ([(3, .int (iI ((t + 1) + 1))), (2, .int (iI x9)), (0, .ref (a (0))), (1, .int (iI (d)))] : List (Nat × Value))) (show ((sI (wk (g 6)) t) + 0) = (sI (wk (g 6)) (t + 1)) by first | rfl | (rw [sI_s _ (by omega)]; unfold wk; simp [*]))) ?_
          exact ih23 (t + 1) (by omega) (by omega)
    · skip
      refine v_bipush C dX5_walks_16 (by decide) ?_
      exact v_ret_i C rfl dX5_walks_18 ⟨(by repeat (first | rfl | rw [if_pos (by omega)] | rw [if_neg (by omega)])), rfl⟩
  · skip
    refine v_iconst C dX5_walks_7 ?_
    exact v_ret_i C rfl dX5_walks_8 ⟨(by repeat (first | rfl | rw [if_pos (by omega)] | rw [if_neg (by omega)])), rfl⟩

set_option maxRecDepth 100000 in
set_option maxHeartbeats 4000000 in
theorem c_X5_out (l : Launch) (D : va_G) (yc : Nat → ClassId) (t1 t2 : Nat) (a : Int → Nat) (A : Nat → Prop) (g : Mm) (v : Int) (hv : R32 v) (HI : FI (g 6)) : Ci l yX5_out wsX5_out { frames := 1, cells := 0, slots := 0, locals := 22 } D yc t1 t2 A (mw a yc) [.ref (a (0)), .int (iI (v))] g (fun r9 g' => r9 = (iI (if v < 0 ∨ 99 < v then -1 else if g 6 0 = 0 then -4 else if (ff (outP (g 6) v) 1000 0) = -1 then -9 else (ff (outP (g 6) v) 1000 0))) ∧ g' = (if v < 0 ∨ 99 < v then g else if g 6 0 = 0 then g else if (ff (outP (g 6) v) 1000 0) = -1 then g else mu g 0 11 (if 0 < sI (ld (g 6)) ((ff (outP (g 6) v) 1000 0) + 1) then 0 else 1))) := by
  refine start_i (cc := cX5_out) (nL := 4) (ret := (some .int)) (own := RX5) (by decide +kernel) rfl rfl (Nat.le_of_ble_eq_true rfl) ?_
  intro p e s m9 below meth c9 C
  have hn := HI.n
  refine v_lv (lv' := [(0, .ref (a (0))), (1, .int (iI (v)))]) rfl ?_
  refine v_iload_n C 1 dX5_out_0 rfl ?_
  refine v_iconst C dX5_out_1 ?_
  refine v_bipush C dX5_out_2 (by decide) ?_
  refine v_cS_i C (As := [.int (iI (v)), .int (iI (0)), .int (iI (99))]) (rest := []) (c_X5_in l D yc t1 t2 A (mw a yc) g v 0 99 (by omega) (by omega) (by omega)) (va_cwS 3 C.hts gX5_out_X5_in rfl rfl rfl (by decide +kernel) ⟨by decide, by decide⟩) rfl rfl (Nat.le_of_ble_eq_true rfl) dX5_out_4 ?_
  intro r9 g9 h9
  rw [h9.1, h9.2]
  clear h9 g9 r9
  try dsimp only
  refine v_ifb_ne (tgt := 12) C dX5_out_7 (by decide) (fun c7 => ?_) (fun c7 => ?_)
  · skip
    refine v_aload_n C 0 dX5_out_12 rfl ?_
    refine v_cV_i C (As := []) (rest := []) (c_X5_are l D yc t1 t2 a A g HI) (cwV 0 C.hts gX5_out_X5_are rfl rfl rfl (by decide +kernel) ⟨by decide, by decide⟩) (fun H hP => va_recv C.hK hP (ci := 5) (q0 := (0 : Int).toNat) rfl (wo_is (by omega) (by omega) ct_mod)) rfl rfl (Nat.le_of_ble_eq_true rfl) dX5_out_13 ?_
    intro r9 g9 h9
    rw [h9.1, h9.2]
    clear h9 g9 r9
    try dsimp only
    refine v_ifb_ne (tgt := 22) C dX5_out_16 (by decide) (fun c16 => ?_) (fun c16 => ?_)
    · skip
      refine v_iconst C dX5_out_22 ?_
      refine v_istore_n (lv' := [(2, .int (iI (0))), (0, .ref (a (0))), (1, .int (iI (v)))]) C dX5_out_23 (by decide) rfl ?_
      refine v_iconst C dX5_out_24 ?_
      refine v_istore_n (lv' := [(3, .int (iI (0))), (2, .int (iI (0))), (0, .ref (a (0))), (1, .int (iI (v)))]) C dX5_out_25 (by decide) rfl ?_
      refine v_lv (congrArg (fun x9 => ([(3, .int (iI (0))), (2, .int (iI x9)), (0, .ref (a (0))), (1, .int (iI (v)))] : List (Nat × Value))) (show (0) = (sI (ld (g 6)) 0) by first | rfl | omega | (simp; done))) ?_
      refine v_loop1 (fun (t : Int) => (1000 - t).toNat) (fun (t : Int) => 0 ≤ t ∧ t ≤ 1000 ∧ ff (outP (g 6) v) (1000 - t).toNat t = (ff (outP (g 6) v) 1000 0)) (fun (t : Int) => [(3, .int (iI (t))), (2, .int (iI (sI (ld (g 6)) t))), (0, .ref (a (0))), (1, .int (iI (v)))]) (fun (t : Int) => g) ?_ 0 ⟨by omega, by omega, rfl⟩
      intro t hI26 ih26
      try dsimp only at ih26 ⊢
      refine v_iload_n C 0 dX5_out_26 rfl ?_
      refine v_sipush C dX5_out_27 (by decide) ?_
      refine v_icmp_ge (tgt := 90) C dX5_out_30 (by decide) (by omega) (by omega) (fun c30 => ?_) (fun c30 => ?_)
      · skip
        refine v_bipush C dX5_out_90 (by decide) ?_
        exact v_ret_i C rfl dX5_out_92 ⟨(by rw [if_neg (by omega), if_neg (by omega), ← hI26.2.2, ff_e (by omega), if_pos rfl]), (by rw [if_neg (by omega), if_neg (by omega), ← hI26.2.2, ff_e (by omega), if_pos rfl])⟩
      · skip
        have hx9 := hI26.2.2
        refine v_iload_n C 1 dX5_out_33 rfl ?_
        refine v_aload_n C 2 dX5_out_34 rfl ?_
        refine v_iload_n C 0 dX5_out_35 rfl ?_
        refine v_cV_i C (As := [.int (iI (t))]) (rest := [.int (iI (sI (ld (g 6)) t))]) (c_X5_farmOn l D yc t1 t2 a A g t HI (by omega) (by omega)) (cwV 1 C.hts gX5_out_X5_farmOn rfl rfl rfl (by decide +kernel) ⟨by decide, by decide⟩) (fun H hP => va_recv C.hK hP (ci := 5) (q0 := (0 : Int).toNat) rfl (wo_is (by omega) (by omega) ct_mod)) rfl rfl (Nat.le_of_ble_eq_true rfl) dX5_out_36 ?_
        intro r9 g9 h9
        rw [h9.1, h9.2]
        clear h9 g9 r9
        try dsimp only
        have h01 := fOn01 HI (by omega) t
        refine v_if_ne (tgt := 50) C dX5_out_39 (by decide) (by omega) (fun c39 => ?_) (fun c39 => ?_)
        · skip
          refine v_aload_n C 2 dX5_out_50 rfl ?_
          refine v_iload_n C 0 dX5_out_51 rfl ?_
          refine v_cV_i C (As := [.int (iI (t))]) (rest := [.int (iI (sI (ld (g 6)) t))]) (c_X5_milkOn l D yc t1 t2 a A g t HI (by omega) (by omega)) (cwV 1 C.hts gX5_out_X5_milkOn rfl rfl rfl (by decide +kernel) ⟨by decide, by decide⟩) (fun H hP => va_recv C.hK hP (ci := 5) (q0 := (0 : Int).toNat) rfl (wo_is (by omega) (by omega) ct_mod)) rfl rfl (Nat.le_of_ble_eq_true rfl) dX5_out_52 ?_
          intro r9 g9 h9
          rw [h9.1, h9.2]
          clear h9 g9 r9
          try dsimp only
          refine v_ineg C dX5_out_55 ?_
          refine v_iadd C dX5_out_56 ?_
          refine v_st (st' := [.int (iI (sI (ld (g 6)) (t + 1)))]) (by rw [sI_s _ (by omega)]; unfold ld; simp [*]) ?_
          refine v_istore_n (lv' := [(2, .int (iI (sI (ld (g 6)) (t + 1)))), (3, .int (iI (t))), (0, .ref (a (0))), (1, .int (iI (v)))]) C dX5_out_57 (by decide) rfl ?_
          have hsb := sI_bd (h := ld (g 6)) (B := 9) (n := t + 1) (fun e _ _ => ld9 HI (by omega) e) (by omega)
          refine v_iload_n C 0 dX5_out_58 rfl ?_
          refine v_iload_n C 3 dX5_out_59 rfl ?_
          refine v_icmp_gt (tgt := 69) C dX5_out_60 (by decide) (by omega) (by omega) (fun c60 => ?_) (fun c60 => ?_)
          · skip
            refine v_aload_n C 2 dX5_out_69 rfl ?_
            refine v_iload_n C 1 dX5_out_70 rfl ?_
            refine v_cut1 80 (fun (v80 : Int) => v80 = if 0 < sI (ld (g 6)) (t + 1) then 0 else 1) (fun (v80 : Int) => [(2, .int (iI (sI (ld (g 6)) (t + 1)))), (3, .int (iI (t))), (0, .ref (a (0))), (1, .int (iI (v)))]) (fun (v80 : Int) => [.int (iI (v80)), .int (iI (t)), .ref (a (0))]) (fun (v80 : Int) => g) ?_ ?_
            · intro v80 hj80
              try dsimp only
              refine v_cV_i C (As := [.int (iI (t)), .int (iI (v80))]) (rest := []) (c_X5_tells l D yc t1 t2 a A g t v80) (cwV 2 C.hts gX5_out_X5_tells rfl rfl rfl (by decide +kernel) ⟨by decide, by decide⟩) (fun H hP => va_recv C.hK hP (ci := 5) (q0 := (0 : Int).toNat) rfl (wo_is (by omega) (by omega) ct_mod)) rfl rfl (Nat.le_of_ble_eq_true rfl) dX5_out_80 ?_
              intro r9 g9 h9
              rw [h9.1, h9.2]
              clear h9 g9 r9
              try dsimp only
              exact v_ret_i C rfl dX5_out_83 ⟨(by rw [if_neg (by omega), if_neg (by omega), ← hx9, ff_y (by omega) (by unfold outP; simp; omega), if_neg (by omega)]), (by rw [if_neg (by omega), if_neg (by omega), ← hx9, ff_y (by omega) (by unfold outP; simp; omega), if_neg (by omega), hj80])⟩
            · intro jn80
              try dsimp only at jn80
              refine v_iload_n C 0 dX5_out_71 rfl ?_
              refine v_if_le (tgt := 79) C dX5_out_72 (by decide) (by omega) (fun c72 => ?_) (fun c72 => ?_)
              · skip
                refine v_iconst C dX5_out_79 ?_
                exact jn80 1 (by first | (exfalso; omega) | rw [if_pos (by omega)] | rw [if_neg (by omega)])
              · skip
                refine v_iconst C dX5_out_75 ?_
                refine v_goto (tgt := 80) C dX5_out_76 (by decide) ?_
                exact jn80 0 (by first | (exfalso; omega) | rw [if_pos (by omega)] | rw [if_neg (by omega)])
          · skip
            refine v_iload_n C 0 dX5_out_63 rfl ?_
            refine v_ineg C dX5_out_64 ?_
            refine v_iload_n C 3 dX5_out_65 rfl ?_
            refine v_icmp_le (tgt := 84) C dX5_out_66 (by decide) (by omega) (by omega) (fun c66 => ?_) (fun c66 => ?_)
            · skip
              refine v_iinc (z' := t + 1) (lv' := [(3, .int (iI (t + 1))), (2, .int (iI (sI (ld (g 6)) (t + 1)))), (0, .ref (a (0))), (1, .int (iI (v)))]) C 1 dX5_out_84 rfl (by omega) (by decide) rfl ?_
              refine v_goto (tgt := 26) C dX5_out_87 (by decide) ?_
              exact ih26 (t + 1) ⟨by omega, by omega, by rw [← hI26.2.2]; exact (ff_n (by omega) (by unfold outP; simp; omega)).symm⟩ (by omega)
            · skip
              refine v_aload_n C 2 dX5_out_69 rfl ?_
              refine v_iload_n C 1 dX5_out_70 rfl ?_
              refine v_cut1 80 (fun (v80 : Int) => v80 = if 0 < sI (ld (g 6)) (t + 1) then 0 else 1) (fun (v80 : Int) => [(2, .int (iI (sI (ld (g 6)) (t + 1)))), (3, .int (iI (t))), (0, .ref (a (0))), (1, .int (iI (v)))]) (fun (v80 : Int) => [.int (iI (v80)), .int (iI (t)), .ref (a (0))]) (fun (v80 : Int) => g) ?_ ?_
              · intro v80 hj80
                try dsimp only
                refine v_cV_i C (As := [.int (iI (t)), .int (iI (v80))]) (rest := []) (c_X5_tells l D yc t1 t2 a A g t v80) (cwV 2 C.hts gX5_out_X5_tells rfl rfl rfl (by decide +kernel) ⟨by decide, by decide⟩) (fun H hP => va_recv C.hK hP (ci := 5) (q0 := (0 : Int).toNat) rfl (wo_is (by omega) (by omega) ct_mod)) rfl rfl (Nat.le_of_ble_eq_true rfl) dX5_out_80 ?_
                intro r9 g9 h9
                rw [h9.1, h9.2]
                clear h9 g9 r9
                try dsimp only
                exact v_ret_i C rfl dX5_out_83 ⟨(by rw [if_neg (by omega), if_neg (by omega), ← hx9, ff_y (by omega) (by unfold outP; simp; omega), if_neg (by omega)]), (by rw [if_neg (by omega), if_neg (by omega), ← hx9, ff_y (by omega) (by unfold outP; simp; omega), if_neg (by omega), hj80])⟩
              · intro jn80
                try dsimp only at jn80
                refine v_iload_n C 0 dX5_out_71 rfl ?_
                refine v_if_le (tgt := 79) C dX5_out_72 (by decide) (by omega) (fun c72 => ?_) (fun c72 => ?_)
                · skip
                  refine v_iconst C dX5_out_79 ?_
                  exact jn80 1 (by first | (exfalso; omega) | rw [if_pos (by omega)] | rw [if_neg (by omega)])
                · skip
                  refine v_iconst C dX5_out_75 ?_
                  refine v_goto (tgt := 80) C dX5_out_76 (by decide) ?_
                  exact jn80 0 (by first | (exfalso; omega) | rw [if_pos (by omega)] | rw [if_neg (by omega)])
        · skip
          refine v_aload_n C 2 dX5_out_42 rfl ?_
          refine v_iload_n C 0 dX5_out_43 rfl ?_
          refine v_cV_i C (As := [.int (iI (t))]) (rest := [.int (iI (sI (ld (g 6)) t))]) (c_X5_milkOn l D yc t1 t2 a A g t HI (by omega) (by omega)) (cwV 1 C.hts gX5_out_X5_milkOn rfl rfl rfl (by decide +kernel) ⟨by decide, by decide⟩) (fun H hP => va_recv C.hK hP (ci := 5) (q0 := (0 : Int).toNat) rfl (wo_is (by omega) (by omega) ct_mod)) rfl rfl (Nat.le_of_ble_eq_true rfl) dX5_out_44 ?_
          intro r9 g9 h9
          rw [h9.1, h9.2]
          clear h9 g9 r9
          try dsimp only
          refine v_goto (tgt := 56) C dX5_out_47 (by decide) ?_
          refine v_iadd C dX5_out_56 ?_
          refine v_st (st' := [.int (iI (sI (ld (g 6)) (t + 1)))]) (by rw [sI_s _ (by omega)]; unfold ld; simp [*]) ?_
          refine v_istore_n (lv' := [(2, .int (iI (sI (ld (g 6)) (t + 1)))), (3, .int (iI (t))), (0, .ref (a (0))), (1, .int (iI (v)))]) C dX5_out_57 (by decide) rfl ?_
          have hsb := sI_bd (h := ld (g 6)) (B := 9) (n := t + 1) (fun e _ _ => ld9 HI (by omega) e) (by omega)
          refine v_iload_n C 0 dX5_out_58 rfl ?_
          refine v_iload_n C 3 dX5_out_59 rfl ?_
          refine v_icmp_gt (tgt := 69) C dX5_out_60 (by decide) (by omega) (by omega) (fun c60 => ?_) (fun c60 => ?_)
          · skip
            refine v_aload_n C 2 dX5_out_69 rfl ?_
            refine v_iload_n C 1 dX5_out_70 rfl ?_
            refine v_cut1 80 (fun (v80 : Int) => v80 = if 0 < sI (ld (g 6)) (t + 1) then 0 else 1) (fun (v80 : Int) => [(2, .int (iI (sI (ld (g 6)) (t + 1)))), (3, .int (iI (t))), (0, .ref (a (0))), (1, .int (iI (v)))]) (fun (v80 : Int) => [.int (iI (v80)), .int (iI (t)), .ref (a (0))]) (fun (v80 : Int) => g) ?_ ?_
            · intro v80 hj80
              try dsimp only
              refine v_cV_i C (As := [.int (iI (t)), .int (iI (v80))]) (rest := []) (c_X5_tells l D yc t1 t2 a A g t v80) (cwV 2 C.hts gX5_out_X5_tells rfl rfl rfl (by decide +kernel) ⟨by decide, by decide⟩) (fun H hP => va_recv C.hK hP (ci := 5) (q0 := (0 : Int).toNat) rfl (wo_is (by omega) (by omega) ct_mod)) rfl rfl (Nat.le_of_ble_eq_true rfl) dX5_out_80 ?_
              intro r9 g9 h9
              rw [h9.1, h9.2]
              clear h9 g9 r9
              try dsimp only
              exact v_ret_i C rfl dX5_out_83 ⟨(by rw [if_neg (by omega), if_neg (by omega), ← hx9, ff_y (by omega) (by unfold outP; simp; omega), if_neg (by omega)]), (by rw [if_neg (by omega), if_neg (by omega), ← hx9, ff_y (by omega) (by unfold outP; simp; omega), if_neg (by omega), hj80])⟩
            · intro jn80
              try dsimp only at jn80
              refine v_iload_n C 0 dX5_out_71 rfl ?_
              refine v_if_le (tgt := 79) C dX5_out_72 (by decide) (by omega) (fun c72 => ?_) (fun c72 => ?_)
              · skip
                refine v_iconst C dX5_out_79 ?_
                exact jn80 1 (by first | (exfalso; omega) | rw [if_pos (by omega)] | rw [if_neg (by omega)])
              · skip
                refine v_iconst C dX5_out_75 ?_
                refine v_goto (tgt := 80) C dX5_out_76 (by decide) ?_
                exact jn80 0 (by first | (exfalso; omega) | rw [if_pos (by omega)] | rw [if_neg (by omega)])
          · skip
            refine v_iload_n C 0 dX5_out_63 rfl ?_
            refine v_ineg C dX5_out_64 ?_
            refine v_iload_n C 3 dX5_out_65 rfl ?_
            refine v_icmp_le (tgt := 84) C dX5_out_66 (by decide) (by omega) (by omega) (fun c66 => ?_) (fun c66 => ?_)
            · skip
              refine v_iinc (z' := t + 1) (lv' := [(3, .int (iI (t + 1))), (2, .int (iI (sI (ld (g 6)) (t + 1)))), (0, .ref (a (0))), (1, .int (iI (v)))]) C 1 dX5_out_84 rfl (by omega) (by decide) rfl ?_
              refine v_goto (tgt := 26) C dX5_out_87 (by decide) ?_
              exact ih26 (t + 1) ⟨by omega, by omega, by rw [← hI26.2.2]; exact (ff_n (by omega) (by unfold outP; simp; omega)).symm⟩ (by omega)
            · skip
              refine v_aload_n C 2 dX5_out_69 rfl ?_
              refine v_iload_n C 1 dX5_out_70 rfl ?_
              refine v_cut1 80 (fun (v80 : Int) => v80 = if 0 < sI (ld (g 6)) (t + 1) then 0 else 1) (fun (v80 : Int) => [(2, .int (iI (sI (ld (g 6)) (t + 1)))), (3, .int (iI (t))), (0, .ref (a (0))), (1, .int (iI (v)))]) (fun (v80 : Int) => [.int (iI (v80)), .int (iI (t)), .ref (a (0))]) (fun (v80 : Int) => g) ?_ ?_
              · intro v80 hj80
                try dsimp only
                refine v_cV_i C (As := [.int (iI (t)), .int (iI (v80))]) (rest := []) (c_X5_tells l D yc t1 t2 a A g t v80) (cwV 2 C.hts gX5_out_X5_tells rfl rfl rfl (by decide +kernel) ⟨by decide, by decide⟩) (fun H hP => va_recv C.hK hP (ci := 5) (q0 := (0 : Int).toNat) rfl (wo_is (by omega) (by omega) ct_mod)) rfl rfl (Nat.le_of_ble_eq_true rfl) dX5_out_80 ?_
                intro r9 g9 h9
                rw [h9.1, h9.2]
                clear h9 g9 r9
                try dsimp only
                exact v_ret_i C rfl dX5_out_83 ⟨(by rw [if_neg (by omega), if_neg (by omega), ← hx9, ff_y (by omega) (by unfold outP; simp; omega), if_neg (by omega)]), (by rw [if_neg (by omega), if_neg (by omega), ← hx9, ff_y (by omega) (by unfold outP; simp; omega), if_neg (by omega), hj80])⟩
              · intro jn80
                try dsimp only at jn80
                refine v_iload_n C 0 dX5_out_71 rfl ?_
                refine v_if_le (tgt := 79) C dX5_out_72 (by decide) (by omega) (fun c72 => ?_) (fun c72 => ?_)
                · skip
                  refine v_iconst C dX5_out_79 ?_
                  exact jn80 1 (by first | (exfalso; omega) | rw [if_pos (by omega)] | rw [if_neg (by omega)])
                · skip
                  refine v_iconst C dX5_out_75 ?_
                  refine v_goto (tgt := 80) C dX5_out_76 (by decide) ?_
                  exact jn80 0 (by first | (exfalso; omega) | rw [if_pos (by omega)] | rw [if_neg (by omega)])
    · skip
      refine v_bipush C dX5_out_19 (by decide) ?_
      exact v_ret_i C rfl dX5_out_21 ⟨(by repeat (first | rfl | rw [if_pos (by omega)] | rw [if_neg (by omega)])), (by repeat (first | rfl | rw [if_pos (by omega)] | rw [if_neg (by omega)]))⟩
  · skip
    refine v_iconst C dX5_out_10 ?_
    exact v_ret_i C rfl dX5_out_11 ⟨(by repeat (first | rfl | rw [if_pos (by omega)] | rw [if_neg (by omega)])), (by repeat (first | rfl | rw [if_pos (by omega)] | rw [if_neg (by omega)]))⟩

set_option maxRecDepth 100000 in
set_option maxHeartbeats 4000000 in
theorem c_X5_round (l : Launch) (D : va_G) (yc : Nat → ClassId) (t1 t2 : Nat) (a : Int → Nat) (A : Nat → Prop) (g : Mm)  (HI : FI (g 6)) : Ci l yX5_round wsX5_round { frames := 1, cells := 0, slots := 0, locals := 20 } D yc t1 t2 A (mw a yc) [.ref (a (0))] g (fun r9 g' => r9 = (iI (if g 6 0 = 0 then -4 else rnd (g 6 1) (g 6 2))) ∧ g' = g) := by
  refine start_i (cc := cX5_round) (nL := 2) (ret := (some .int)) (own := RX5) (by decide +kernel) rfl rfl (Nat.le_of_ble_eq_true rfl) ?_
  intro p e s m9 below meth c9 C
  have wf25 : Cond.fieldLink RX5 25 (TX5 5).1 (TX5 5).2.1 (TX5 5).2.2.1 ∈ wsX5_round := by decide +kernel
  have hinX5 : ∀ w ∈ u_ws RX5 TX5 17, w ∈ wsX5_round := by decide +kernel
  have hn := HI.n
  refine v_lv (lv' := [(0, .ref (a (0)))]) rfl ?_
  refine v_aload_n C 0 dX5_round_0 rfl ?_
  refine v_cV_i C (As := []) (rest := []) (c_X5_are l D yc t1 t2 a A g HI) (cwV 0 C.hts gX5_round_X5_are rfl rfl rfl (by decide +kernel) ⟨by decide, by decide⟩) (fun H hP => va_recv C.hK hP (ci := 5) (q0 := (0 : Int).toNat) rfl (wo_is (by omega) (by omega) ct_mod)) rfl rfl (Nat.le_of_ble_eq_true rfl) dX5_round_1 ?_
  intro r9 g9 h9
  rw [h9.1, h9.2]
  clear h9 g9 r9
  try dsimp only
  refine v_ifb_ne (tgt := 10) C dX5_round_4 (by decide) (fun c4 => ?_) (fun c4 => ?_)
  · skip
    refine v_aload_n C 0 dX5_round_10 rfl ?_
    refine v_getf C (by omega) (by omega) ct_mod rfl 5 (by decide) wf25 hinX5 rfl dX5_round_11 ?_
    refine v_iconst C dX5_round_14 ?_
    refine v_iaload C (by omega) (by omega) ct_mnow (by omega) (by omega) (by decide) dX5_round_15 ?_
    refine v_istore_n (lv' := [(1, .int (iI (g (6) (1)))), (0, .ref (a (0)))]) C dX5_round_16 (by decide) rfl ?_
    refine v_lv (congrArg (fun x9 => ([(1, .int (iI x9)), (0, .ref (a (0)))] : List (Nat × Value))) (show (g (6) (1)) = (((g 6 1))) by first | rfl | omega | (simp; done))) ?_
    refine v_loop1 (fun (x : Int) => (rnd (g 6 1) (g 6 2) - x).toNat) (fun (x : Int) => 0 < x ∧ x ≤ rnd (g 6 1) (g 6 2) ∧ x % g 6 1 = 0) (fun (x : Int) => [(1, .int (iI (x))), (0, .ref (a (0)))]) (fun (x : Int) => g) ?_ (g 6 1) ⟨by omega, by have hr := rnd_p (T := g 6 1) (M := g 6 2) (by omega) (by omega) (by omega) (by omega); have h9 := mul_gap (T := g 6 1) (a := 0) (b := rnd (g 6 1) (g 6 2)) (by omega) (Int.zero_emod _) hr.2.2.1 hr.1; omega, Int.emod_self⟩
    intro x hI17 ih17
    try dsimp only at ih17 ⊢
    have hr := rnd_p (T := g 6 1) (M := g 6 2) (by omega) (by omega) (by omega) (by omega)
    have hm := emd (d := x) (n := g 6 2) (by omega)
    refine v_iload_n C 0 dX5_round_17 rfl ?_
    refine v_aload_n C 1 dX5_round_18 rfl ?_
    refine v_getf C (by omega) (by omega) ct_mod rfl 5 (by decide) wf25 hinX5 rfl dX5_round_19 ?_
    refine v_iconst C dX5_round_22 ?_
    refine v_iaload C (by omega) (by omega) ct_mnow (by omega) (by omega) (by decide) dX5_round_23 ?_
    refine v_irem C dX5_round_24 (by omega) (by omega) (by omega) (by omega) ?_
    refine v_if_eq (tgt := 40) C dX5_round_25 (by decide) (by omega) (fun c25 => ?_) (fun c25 => ?_)
    · skip
      refine v_iload_n C 0 dX5_round_40 rfl ?_
      exact v_ret_i C rfl dX5_round_41 ⟨(by rw [if_neg (by omega)]; congr 1; have := rnd_l (T := g 6 1) (M := g 6 2) (n := x) (by omega) (by omega) (by omega) (by omega) (by omega) (by omega) hI17.2.2 c25; omega), rfl⟩
    · skip
      refine v_iload_n C 0 dX5_round_28 rfl ?_
      refine v_aload_n C 1 dX5_round_29 rfl ?_
      refine v_getf C (by omega) (by omega) ct_mod rfl 5 (by decide) wf25 hinX5 rfl dX5_round_30 ?_
      refine v_iconst C dX5_round_33 ?_
      refine v_iaload C (by omega) (by omega) ct_mnow (by omega) (by omega) (by decide) dX5_round_34 ?_
      refine v_iadd C dX5_round_35 ?_
      refine v_istore_n (lv' := [(1, .int (iI (x + (g (6) (1))))), (0, .ref (a (0)))]) C dX5_round_36 (by decide) rfl ?_
      refine v_goto (tgt := 17) C dX5_round_37 (by decide) ?_
      exact ih17 (x + (g (6) (1))) ⟨by omega, by have hne : x ≠ rnd (g 6 1) (g 6 2) := fun h => c25 (by rw [h]; exact hr.2.2.2); exact mul_gap (by omega) hI17.2.2 hr.2.2.1 (by omega), by rw [Int.add_emod_right]; exact hI17.2.2⟩ (by have hne : x ≠ rnd (g 6 1) (g 6 2) := fun h => c25 (by rw [h]; exact hr.2.2.2); omega)
  · skip
    refine v_bipush C dX5_round_7 (by decide) ?_
    exact v_ret_i C rfl dX5_round_9 ⟨(by repeat (first | rfl | rw [if_pos (by omega)] | rw [if_neg (by omega)])), rfl⟩
