set_option maxRecDepth 100000 in
set_option maxHeartbeats 4000000 in
theorem c_X4_calfByReading (l : Launch) (D : va_G) (yc : Nat → ClassId) (t1 t2 : Nat) (a : Int → Nat) (A : Nat → Prop) (g : Mm) (d q v : Int) (F : Int → Int) (hd : R32 d) (hq : R32 q) (hv : R32 v) (HF : FR g 0 F) (HI : FI F) (ht : 0 < F 1) (hd9 : 0 ≤ d ∧ d ≤ 999) (hq9 : 0 ≤ q ∧ q ≤ 3) : Ci l yX4_calfByReading wsX4_calfByReading { frames := 2, cells := 0, slots := 0, locals := 44 } D yc t1 t2 A (cw a yc) [.ref (a (0)), .int (iI (d)), .int (iI (q)), .int (iI (v))] g (fun r9 g' => r9 = (iI (cb F d q v)) ∧ g' = g) := by
  refine start_i (cc := cX4_calfByReading) (nL := 4) (ret := (some .int)) (own := RX4) (by decide +kernel) rfl rfl (Nat.le_of_ble_eq_true rfl) ?_
  intro p e s m9 below meth c9 C
  have wf21 : Cond.fieldLink RX4 21 (TX4 2).1 (TX4 2).2.1 (TX4 2).2.2.1 ∈ wsX4_calfByReading := by decide +kernel
  have hinX4 : ∀ w ∈ u_ws RX4 TX4 10, w ∈ wsX4_calfByReading := by decide +kernel
  have wm311 : Cond.methodLink RX4 311 Lib.Math.max.name ∈ wsX4_calfByReading := by decide +kernel
  have wnmax : Cond.static Lib.Math.max.name ∈ wsX4_calfByReading := by decide +kernel
  have wmi : Cond.initialized "java/lang/Math" ∈ wsX4_calfByReading := by decide +kernel
  have womax : Cond.code Lib.Math.max.name Lib.Math.max.code 2 (some .int) ∈ wsX4_calfByReading := by decide +kernel
  have hn := HI.n
  refine v_lv (lv' := [(0, .ref (a (0))), (1, .int (iI (d))), (2, .int (iI (q))), (3, .int (iI (v)))]) rfl ?_
  refine v_iload_n C 2 dX4_calfByReading_0 rfl ?_
  rcases (show q = 0 ∨ q = 1 ∨ q = 2 ∨ (q < 0 ∨ 2 < q) by omega) with c1 | c1 | c1 | c1
  · refine v_tin (off := 27) (tgt := 28) C 0 dX4_calfByReading_1 c1 (by decide) (by decide) (by decide) rfl (by decide) ?_
    refine v_aload_n C 0 dX4_calfByReading_28 rfl ?_
    refine v_getf C (by omega) (by omega) ct_cow rfl 2 (by decide) wf21 hinX4 rfl dX4_calfByReading_29 ?_
    refine v_st (st' := [.ref (a (26 + 0))]) rfl ?_
    refine v_iload_n C 1 dX4_calfByReading_32 rfl ?_
    refine v_cV_i C (As := [.int (iI (d))]) (rest := []) (c_X1_farmOn l D yc t1 t2 a A g 0 d F (by omega) HF HI (by omega) (by omega)) (cwV 1 C.hts gX4_calfByReading_X1_farmOn rfl rfl rfl (by decide +kernel) ⟨by decide, by decide⟩) (fun H hP => va_recv C.hK hP (ci := 1) (q0 := (26 + 0 : Int).toNat) rfl (wo_is (by omega) (by omega) (ct_farm (by omega) (by omega)))) rfl rfl (Nat.le_of_ble_eq_true rfl) dX4_calfByReading_33 ?_
    intro r9 g9 h9
    rw [h9.1, h9.2]
    clear h9 g9 r9
    try dsimp only
    exact v_ret_i C rfl dX4_calfByReading_36 ⟨(by unfold cb; rw [if_pos (by omega)]), rfl⟩
  · refine v_tin (off := 36) (tgt := 37) C 1 dX4_calfByReading_1 c1 (by decide) (by decide) (by decide) rfl (by decide) ?_
    refine v_aload_n C 0 dX4_calfByReading_37 rfl ?_
    refine v_getf C (by omega) (by omega) ct_cow rfl 2 (by decide) wf21 hinX4 rfl dX4_calfByReading_38 ?_
    refine v_st (st' := [.ref (a (26 + 0))]) rfl ?_
    refine v_iconst C dX4_calfByReading_41 ?_
    refine v_iload_n C 1 dX4_calfByReading_42 rfl ?_
    refine v_iconst C dX4_calfByReading_43 ?_
    refine v_isub C dX4_calfByReading_44 ?_
    refine v_mmax C wm311 wnmax wmi womax (by decide) (Nat.le_of_ble_eq_true rfl) (by omega) (by omega) dX4_calfByReading_45 ?_
    refine v_st (st' := [.int (iI (if 0 < d - 1 then d - 1 else 0)), .ref (a (26 + 0))]) rfl ?_
    refine v_cV_i C (As := [.int (iI (if 0 < d - 1 then d - 1 else 0))]) (rest := []) (c_X1_farmOn l D yc t1 t2 a A g 0 (if 0 < d - 1 then d - 1 else 0) F (by omega) HF HI (by omega) (by split <;> omega)) (cwV 1 C.hts gX4_calfByReading_X1_farmOn rfl rfl rfl (by decide +kernel) ⟨by decide, by decide⟩) (fun H hP => va_recv C.hK hP (ci := 1) (q0 := (26 + 0 : Int).toNat) rfl (wo_is (by omega) (by omega) (ct_farm (by omega) (by omega)))) rfl rfl (Nat.le_of_ble_eq_true rfl) dX4_calfByReading_48 ?_
    intro r9 g9 h9
    rw [h9.1, h9.2]
    clear h9 g9 r9
    try dsimp only
    exact v_ret_i C rfl dX4_calfByReading_51 ⟨(by unfold cb; rw [if_neg (show ¬ q = 0 by omega), if_pos (show q = 1 by omega)]), rfl⟩
  · refine v_tin (off := 51) (tgt := 52) C 2 dX4_calfByReading_1 c1 (by decide) (by decide) (by decide) rfl (by decide) ?_
    refine v_iload_n C 3 dX4_calfByReading_52 rfl ?_
    refine v_if_lt (tgt := 60) C dX4_calfByReading_53 (by decide) (by omega) (fun c53 => ?_) (fun c53 => ?_)
    · skip
      refine v_iconst C dX4_calfByReading_60 ?_
      exact v_ret_i C rfl dX4_calfByReading_61 ⟨(by unfold cb; repeat (first | rfl | rw [if_pos (by omega)] | rw [if_neg (by omega)])), rfl⟩
    · skip
      refine v_iconst C dX4_calfByReading_56 ?_
      refine v_goto (tgt := 61) C dX4_calfByReading_57 (by decide) ?_
      exact v_ret_i C rfl dX4_calfByReading_61 ⟨(by unfold cb; repeat (first | rfl | rw [if_pos (by omega)] | rw [if_neg (by omega)])), rfl⟩
  · refine v_tout (tgt := 62) C dX4_calfByReading_1 (by omega) c1 (by decide) ?_
    refine v_aload_n C 0 dX4_calfByReading_62 rfl ?_
    refine v_getf C (by omega) (by omega) ct_cow rfl 2 (by decide) wf21 hinX4 rfl dX4_calfByReading_63 ?_
    refine v_st (st' := [.ref (a (26 + 0))]) rfl ?_
    refine v_iload_n C 1 dX4_calfByReading_66 rfl ?_
    refine v_cV_i C (As := [.int (iI (d))]) (rest := []) (c_X1_farmWalkedToBehind l D yc t1 t2 a A g 0 d F (by omega) HF HI (by omega) (by omega)) (cwV 1 C.hts gX4_calfByReading_X1_farmWalkedToBehind rfl rfl rfl (by decide +kernel) ⟨by decide, by decide⟩) (fun H hP => va_recv C.hK hP (ci := 1) (q0 := (26 + 0 : Int).toNat) rfl (wo_is (by omega) (by omega) (ct_farm (by omega) (by omega)))) rfl rfl (Nat.le_of_ble_eq_true rfl) dX4_calfByReading_67 ?_
    intro r9 g9 h9
    rw [h9.1, h9.2]
    clear h9 g9 r9
    try dsimp only
    exact v_ret_i C rfl dX4_calfByReading_70 ⟨(by unfold cb; rw [if_neg (show ¬ q = 0 by omega), if_neg (show ¬ q = 1 by omega), if_neg (show ¬ q = 2 by omega)]), rfl⟩

set_option maxRecDepth 100000 in
set_option maxHeartbeats 4000000 in
theorem c_X4_calf (l : Launch) (D : va_G) (yc : Nat → ClassId) (t1 t2 : Nat) (a : Int → Nat) (A : Nat → Prop) (g : Mm) (d q : Int) (F : Int → Int) (hd : R32 d) (hq : R32 q) (HF : FR g 0 F) (HI : FI F) : Ci l yX4_calf wsX4_calf { frames := 3, cells := 0, slots := 0, locals := 67 } D yc t1 t2 A (cw a yc) [.ref (a (0)), .int (iI (d)), .int (iI (q))] g (fun r9 g' => r9 = (iI (if (d < 0 ∨ 999 < d) ∨ (q < 0 ∨ 3 < q) then -1 else if F 0 = 0 then -4 else cb F d q (sI (ld F) (d + 1)))) ∧ g' = g) := by
  refine start_i (cc := cX4_calf) (nL := 3) (ret := (some .int)) (own := RX4) (by decide +kernel) rfl rfl (Nat.le_of_ble_eq_true rfl) ?_
  intro p e s m9 below meth c9 C
  have wf21 : Cond.fieldLink RX4 21 (TX4 2).1 (TX4 2).2.1 (TX4 2).2.2.1 ∈ wsX4_calf := by decide +kernel
  have hinX4 : ∀ w ∈ u_ws RX4 TX4 10, w ∈ wsX4_calf := by decide +kernel
  have hn := HI.n
  refine v_lv (lv' := [(0, .ref (a (0))), (1, .int (iI (d))), (2, .int (iI (q)))]) rfl ?_
  refine v_iload_n C 1 dX4_calf_0 rfl ?_
  refine v_cS_i C (As := [.int (iI (d))]) (rest := []) (c_X4_isNoDay l D yc t1 t2 A (cw a yc) g d (by omega)) (va_cwS 1 C.hts gX4_calf_X4_isNoDay rfl rfl rfl (by decide +kernel) ⟨by decide, by decide⟩) rfl rfl (Nat.le_of_ble_eq_true rfl) dX4_calf_1 ?_
  intro r9 g9 h9
  rw [h9.1, h9.2]
  clear h9 g9 r9
  try dsimp only
  refine v_ifb_ne (tgt := 14) C dX4_calf_4 (by decide) (fun c4 => ?_) (fun c4 => ?_)
  · skip
    refine v_iconst C dX4_calf_14 ?_
    exact v_ret_i C rfl dX4_calf_15 ⟨(by repeat (first | rfl | rw [if_pos (by omega)] | rw [if_neg (by omega)])), rfl⟩
  · skip
    refine v_iload_n C 2 dX4_calf_7 rfl ?_
    refine v_cS_i C (As := [.int (iI (q))]) (rest := []) (c_X4_isNoReading l D yc t1 t2 A (cw a yc) g q (by omega)) (va_cwS 1 C.hts gX4_calf_X4_isNoReading rfl rfl rfl (by decide +kernel) ⟨by decide, by decide⟩) rfl rfl (Nat.le_of_ble_eq_true rfl) dX4_calf_8 ?_
    intro r9 g9 h9
    rw [h9.1, h9.2]
    clear h9 g9 r9
    try dsimp only
    refine v_ifb_eq (tgt := 16) C dX4_calf_11 (by decide) (fun c11 => ?_) (fun c11 => ?_)
    · skip
      refine v_aload_n C 0 dX4_calf_16 rfl ?_
      refine v_getf C (by omega) (by omega) ct_cow rfl 2 (by decide) wf21 hinX4 rfl dX4_calf_17 ?_
      refine v_st (st' := [.ref (a (26 + 0))]) rfl ?_
      refine v_cV_i C (As := []) (rest := []) (c_X1_isMissing l D yc t1 t2 a A g 0 F (by omega) HF HI) (cwV 0 C.hts gX4_calf_X1_isMissing rfl rfl rfl (by decide +kernel) ⟨by decide, by decide⟩) (fun H hP => va_recv C.hK hP (ci := 1) (q0 := (26 + 0 : Int).toNat) rfl (wo_is (by omega) (by omega) (ct_farm (by omega) (by omega)))) rfl rfl (Nat.le_of_ble_eq_true rfl) dX4_calf_20 ?_
      intro r9 g9 h9
      rw [h9.1, h9.2]
      clear h9 g9 r9
      try dsimp only
      refine v_ifb_eq (tgt := 29) C dX4_calf_23 (by decide) (fun c23 => ?_) (fun c23 => ?_)
      · skip
        refine v_aload_n C 0 dX4_calf_29 rfl ?_
        refine v_iload_n C 1 dX4_calf_30 rfl ?_
        refine v_iload_n C 2 dX4_calf_31 rfl ?_
        refine v_aload_n C 0 dX4_calf_32 rfl ?_
        refine v_getf C (by omega) (by omega) ct_cow rfl 2 (by decide) wf21 hinX4 rfl dX4_calf_33 ?_
        refine v_st (st' := [.ref (a (26 + 0)), .int (iI (q)), .int (iI (d)), .ref (a (0))]) rfl ?_
        refine v_iload_n C 1 dX4_calf_36 rfl ?_
        refine v_cV_i C (As := [.int (iI (d))]) (rest := [.int (iI (q)), .int (iI (d)), .ref (a (0))]) (c_X1_leadUpTo l D yc t1 t2 a A g 0 d F (by omega) HF HI (by omega) (by omega)) (cwV 1 C.hts gX4_calf_X1_leadUpTo rfl rfl rfl (by decide +kernel) ⟨by decide, by decide⟩) (fun H hP => va_recv C.hK hP (ci := 1) (q0 := (26 + 0 : Int).toNat) rfl (wo_is (by omega) (by omega) (ct_farm (by omega) (by omega)))) rfl rfl (Nat.le_of_ble_eq_true rfl) dX4_calf_37 ?_
        intro r9 g9 h9
        rw [h9.1, h9.2]
        clear h9 g9 r9
        try dsimp only
        have hsb := sI_bd (h := ld F) (B := 9) (n := d + 1) (fun e _ _ => ld9 HI (by omega) e) (by omega)
        refine v_cV_i C (As := [.int (iI (d)), .int (iI (q)), .int (iI (sI (ld F) (d + 1)))]) (rest := []) (c_X4_calfByReading l D yc t1 t2 a A g d q (sI (ld F) (d + 1)) F (by omega) (by omega) (by omega) HF HI (by omega) (by omega) (by omega)) (cwV 3 C.hts gX4_calf_X4_calfByReading rfl rfl rfl (by decide +kernel) ⟨by decide, by decide⟩) (fun H hP => va_recv C.hK hP (ci := 4) (q0 := (0 : Int).toNat) rfl (wo_is (by omega) (by omega) ct_cow)) rfl rfl (Nat.le_of_ble_eq_true rfl) dX4_calf_40 ?_
        intro r9 g9 h9
        rw [h9.1, h9.2]
        clear h9 g9 r9
        try dsimp only
        exact v_ret_i C rfl dX4_calf_43 ⟨(by repeat (first | rfl | rw [if_pos (by omega)] | rw [if_neg (by omega)])), rfl⟩
      · skip
        refine v_bipush C dX4_calf_26 (by decide) ?_
        exact v_ret_i C rfl dX4_calf_28 ⟨(by repeat (first | rfl | rw [if_pos (by omega)] | rw [if_neg (by omega)])), rfl⟩
    · skip
      refine v_iconst C dX4_calf_14 ?_
      exact v_ret_i C rfl dX4_calf_15 ⟨(by repeat (first | rfl | rw [if_pos (by omega)] | rw [if_neg (by omega)])), rfl⟩
