set_option maxRecDepth 100000 in
set_option maxHeartbeats 4000000 in
theorem c_X4_bill (l : Launch) (D : va_G) (yc : Nat → ClassId) (t1 t2 : Nat) (a : Int → Nat) (A : Nat → Prop) (g : Mm) (x d : Int) (F : Int → Int) (hx : R32 x) (hd : R32 d) (HF : FR g 0 F) (HI : FI F) : Ci l yX4_bill wsX4_bill { frames := 2, cells := 0, slots := 0, locals := 56 } D yc t1 t2 A (cw a yc) [.ref (a (0)), .int (iI (x)), .int (iI (d))] g (fun r9 g' => r9 = (iI (if (x < 1 ∨ 9999 < x) ∨ (d < 0 ∨ 999 < d) then -1 else if F 0 = 0 then -4 else 1)) ∧ g' = (if (x < 1 ∨ 9999 < x) ∨ (d < 0 ∨ 999 < d) then g else if F 0 = 0 then g else if MM F 0 d + MM F 1 d = 0 then mu (mu g 0 8 ((x) / (Int.gcd (x) (2) : Int))) 0 9 ((2) / (Int.gcd (x) (2) : Int)) else mu (mu g 0 8 ((x * MM F 0 d) / (Int.gcd (x * MM F 0 d) (MM F 0 d + MM F 1 d) : Int))) 0 9 ((MM F 0 d + MM F 1 d) / (Int.gcd (x * MM F 0 d) (MM F 0 d + MM F 1 d) : Int)))) := by
  refine start_i (cc := cX4_bill) (nL := 5) (ret := (some .int)) (own := RX4) (by decide +kernel) rfl rfl (Nat.le_of_ble_eq_true rfl) ?_
  intro p e s m9 below meth c9 C
  have wf21 : Cond.fieldLink RX4 21 (TX4 2).1 (TX4 2).2.1 (TX4 2).2.2.1 ∈ wsX4_bill := by decide +kernel
  have hinX4 : ∀ w ∈ u_ws RX4 TX4 10, w ∈ wsX4_bill := by decide +kernel
  have wk250 : Cond.constantLong RX4 250 2 ∈ wsX4_bill := by decide +kernel
  have hn := HI.n
  refine v_lv (lv' := [(0, .ref (a (0))), (1, .int (iI (x))), (2, .int (iI (d)))]) rfl ?_
  refine v_iload_n C 1 dX4_bill_0 rfl ?_
  refine v_iconst C dX4_bill_1 ?_
  refine v_sipush C dX4_bill_2 (by decide) ?_
  refine v_cS_i C (As := [.int (iI (x)), .int (iI (1)), .int (iI (9999))]) (rest := []) (c_X4_outside l D yc t1 t2 A (cw a yc) g x 1 9999 (by omega) (by omega) (by omega)) (va_cwS 3 C.hts gX4_bill_X4_outside rfl rfl rfl (by decide +kernel) ⟨by decide, by decide⟩) rfl rfl (Nat.le_of_ble_eq_true rfl) dX4_bill_5 ?_
  intro r9 g9 h9
  rw [h9.1, h9.2]
  clear h9 g9 r9
  try dsimp only
  refine v_ifb_ne (tgt := 18) C dX4_bill_8 (by decide) (fun c8 => ?_) (fun c8 => ?_)
  · skip
    refine v_iconst C dX4_bill_18 ?_
    exact v_ret_i C rfl dX4_bill_19 ⟨(by first | (exfalso; omega) | repeat (first | rfl | rw [if_pos (by omega)] | rw [if_neg (by omega)])), (by first | (exfalso; omega) | repeat (first | rfl | rw [if_pos (by omega)] | rw [if_neg (by omega)]))⟩
  · skip
    refine v_iload_n C 2 dX4_bill_11 rfl ?_
    refine v_cS_i C (As := [.int (iI (d))]) (rest := []) (c_X4_isNoDay l D yc t1 t2 A (cw a yc) g d (by omega)) (va_cwS 1 C.hts gX4_bill_X4_isNoDay rfl rfl rfl (by decide +kernel) ⟨by decide, by decide⟩) rfl rfl (Nat.le_of_ble_eq_true rfl) dX4_bill_12 ?_
    intro r9 g9 h9
    rw [h9.1, h9.2]
    clear h9 g9 r9
    try dsimp only
    refine v_ifb_eq (tgt := 20) C dX4_bill_15 (by decide) (fun c15 => ?_) (fun c15 => ?_)
    · skip
      refine v_aload_n C 0 dX4_bill_20 rfl ?_
      refine v_getf C (by omega) (by omega) ct_cow rfl 2 (by decide) wf21 hinX4 rfl dX4_bill_21 ?_
      refine v_st (st' := [.ref (a (26 + 0))]) rfl ?_
      refine v_cV_i C (As := []) (rest := []) (c_X1_isMissing l D yc t1 t2 a A g 0 F (by omega) HF HI) (cwV 0 C.hts gX4_bill_X1_isMissing rfl rfl rfl (by decide +kernel) ⟨by decide, by decide⟩) (fun H hP => va_recv C.hK hP (ci := 1) (q0 := (26 + 0 : Int).toNat) rfl (wo_is (by omega) (by omega) (ct_farm (by omega) (by omega)))) rfl rfl (Nat.le_of_ble_eq_true rfl) dX4_bill_24 ?_
      intro r9 g9 h9
      rw [h9.1, h9.2]
      clear h9 g9 r9
      try dsimp only
      refine v_ifb_eq (tgt := 33) C dX4_bill_27 (by decide) (fun c27 => ?_) (fun c27 => ?_)
      · skip
        have M0 := MM_bd HI (by omega) 0 (d := d) (by omega) (by omega)
        have M1 := MM_bd HI (by omega) 1 (d := d) (by omega) (by omega)
        have hmul : 0 ≤ x * MM F 0 d ∧ x * MM F 0 d ≤ 9999 * 9099 := ⟨Int.mul_nonneg (by omega) (by omega), Int.mul_le_mul (by omega) (by omega) (by omega) (by omega)⟩
        refine v_aload_n C 0 dX4_bill_33 rfl ?_
        refine v_getf C (by omega) (by omega) ct_cow rfl 2 (by decide) wf21 hinX4 rfl dX4_bill_34 ?_
        refine v_st (st' := [.ref (a (26 + 0))]) rfl ?_
        refine v_iconst C dX4_bill_37 ?_
        refine v_iconst C dX4_bill_38 ?_
        refine v_iload_n C 2 dX4_bill_39 rfl ?_
        refine v_cV_i C (As := [.int (iI (0)), .int (iI (0)), .int (iI (d))]) (rest := []) (c_X1_milkOf l D yc t1 t2 a A g 0 0 0 d F (by omega) HF HI (by omega) (by omega) (by omega) (by omega)) (cwV 3 C.hts gX4_bill_X1_milkOf rfl rfl rfl (by decide +kernel) ⟨by decide, by decide⟩) (fun H hP => va_recv C.hK hP (ci := 1) (q0 := (26 + 0 : Int).toNat) rfl (wo_is (by omega) (by omega) (ct_farm (by omega) (by omega)))) rfl rfl (Nat.le_of_ble_eq_true rfl) dX4_bill_40 ?_
        intro r9 g9 h9
        rw [h9.1, h9.2]
        clear h9 g9 r9
        try dsimp only
        refine v_st (st' := [.int (iI (MM F 0 d))]) rfl ?_
        refine v_istore_n (lv' := [(3, .int (iI (MM F 0 d))), (0, .ref (a (0))), (1, .int (iI (x))), (2, .int (iI (d)))]) C dX4_bill_43 (by decide) rfl ?_
        refine v_iload_n C 0 dX4_bill_44 rfl ?_
        refine v_aload_n C 1 dX4_bill_45 rfl ?_
        refine v_getf C (by omega) (by omega) ct_cow rfl 2 (by decide) wf21 hinX4 rfl dX4_bill_46 ?_
        refine v_st (st' := [.ref (a (26 + 0)), .int (iI (MM F 0 d))]) rfl ?_
        refine v_iconst C dX4_bill_49 ?_
        refine v_iconst C dX4_bill_50 ?_
        refine v_iload_n C 3 dX4_bill_51 rfl ?_
        refine v_cV_i C (As := [.int (iI (1)), .int (iI (0)), .int (iI (d))]) (rest := [.int (iI (MM F 0 d))]) (c_X1_milkOf l D yc t1 t2 a A g 0 1 0 d F (by omega) HF HI (by omega) (by omega) (by omega) (by omega)) (cwV 3 C.hts gX4_bill_X1_milkOf rfl rfl rfl (by decide +kernel) ⟨by decide, by decide⟩) (fun H hP => va_recv C.hK hP (ci := 1) (q0 := (26 + 0 : Int).toNat) rfl (wo_is (by omega) (by omega) (ct_farm (by omega) (by omega)))) rfl rfl (Nat.le_of_ble_eq_true rfl) dX4_bill_52 ?_
        intro r9 g9 h9
        rw [h9.1, h9.2]
        clear h9 g9 r9
        try dsimp only
        refine v_st (st' := [.int (iI (MM F 1 d)), .int (iI (MM F 0 d))]) rfl ?_
        refine v_iadd C dX4_bill_55 ?_
        refine v_istore (lv' := [(4, .int (iI ((MM F 0 d) + (MM F 1 d)))), (3, .int (iI (MM F 0 d))), (0, .ref (a (0))), (1, .int (iI (x))), (2, .int (iI (d)))]) C dX4_bill_56 (by decide) rfl ?_
        refine v_iload C 0 dX4_bill_58 rfl ?_
        refine v_if_ne (tgt := 75) C dX4_bill_60 (by decide) (by omega) (fun c60 => ?_) (fun c60 => ?_)
        · skip
          refine v_aload_n C 2 dX4_bill_75 rfl ?_
          refine v_iload_n C 3 dX4_bill_76 rfl ?_
          refine v_i2l C dX4_bill_77 (by omega) ?_
          refine v_iload_n C 1 dX4_bill_78 rfl ?_
          refine v_i2l C dX4_bill_79 (by omega) ?_
          refine v_lmul C dX4_bill_80 ?_
          refine v_iload C 0 dX4_bill_81 rfl ?_
          refine v_i2l C dX4_bill_83 (by omega) ?_
          refine v_cV_v C (As := [.long (lI (x * (MM F 0 d))), .long (lI ((MM F 0 d) + (MM F 1 d)))]) (rest := []) (c_X4_tellPart l D yc t1 t2 a A g (x * (MM F 0 d)) ((MM F 0 d) + (MM F 1 d)) (by omega) (by omega)) (cwV 2 C.hts gX4_bill_X4_tellPart rfl rfl rfl (by decide +kernel) ⟨by decide, by decide⟩) (fun H hP => va_recv C.hK hP (ci := 4) (q0 := (0 : Int).toNat) rfl (wo_is (by omega) (by omega) ct_cow)) rfl rfl (Nat.le_of_ble_eq_true rfl) dX4_bill_84 ?_
          intro g9 h9
          rw [h9]
          clear h9 g9
          try dsimp only
          refine v_iconst C dX4_bill_87 ?_
          exact v_ret_i C rfl dX4_bill_88 ⟨(by first | (exfalso; omega) | repeat (first | rfl | rw [if_pos (by omega)] | rw [if_neg (by omega)])), (by first | (exfalso; omega) | repeat (first | rfl | rw [if_pos (by omega)] | rw [if_neg (by omega)]))⟩
        · skip
          refine v_aload_n C 2 dX4_bill_63 rfl ?_
          refine v_iload_n C 3 dX4_bill_64 rfl ?_
          refine v_i2l C dX4_bill_65 (by omega) ?_
          refine v_ldc2 (z := 2) C wk250 dX4_bill_66 (by decide) ?_
          refine v_cV_v C (As := [.long (lI (x)), .long (lI (2))]) (rest := []) (c_X4_tellPart l D yc t1 t2 a A g x 2 (by omega) (by omega)) (cwV 2 C.hts gX4_bill_X4_tellPart rfl rfl rfl (by decide +kernel) ⟨by decide, by decide⟩) (fun H hP => va_recv C.hK hP (ci := 4) (q0 := (0 : Int).toNat) rfl (wo_is (by omega) (by omega) ct_cow)) rfl rfl (Nat.le_of_ble_eq_true rfl) dX4_bill_69 ?_
          intro g9 h9
          rw [h9]
          clear h9 g9
          try dsimp only
          refine v_goto (tgt := 87) C dX4_bill_72 (by decide) ?_
          refine v_iconst C dX4_bill_87 ?_
          exact v_ret_i C rfl dX4_bill_88 ⟨(by first | (exfalso; omega) | repeat (first | rfl | rw [if_pos (by omega)] | rw [if_neg (by omega)])), (by first | (exfalso; omega) | repeat (first | rfl | rw [if_pos (by omega)] | rw [if_neg (by omega)]))⟩
      · skip
        refine v_bipush C dX4_bill_30 (by decide) ?_
        exact v_ret_i C rfl dX4_bill_32 ⟨(by first | (exfalso; omega) | repeat (first | rfl | rw [if_pos (by omega)] | rw [if_neg (by omega)])), (by first | (exfalso; omega) | repeat (first | rfl | rw [if_pos (by omega)] | rw [if_neg (by omega)]))⟩
    · skip
      refine v_iconst C dX4_bill_18 ?_
      exact v_ret_i C rfl dX4_bill_19 ⟨(by first | (exfalso; omega) | repeat (first | rfl | rw [if_pos (by omega)] | rw [if_neg (by omega)])), (by first | (exfalso; omega) | repeat (first | rfl | rw [if_pos (by omega)] | rw [if_neg (by omega)]))⟩
