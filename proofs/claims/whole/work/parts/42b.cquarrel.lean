set_option maxRecDepth 100000 in
set_option maxHeartbeats 4000000 in
theorem c_X4_quarrel (l : Launch) (D : va_G) (yc : Nat → ClassId) (t1 t2 : Nat) (a : Int → Nat) (A : Nat → Prop) (g : Mm) (d x y : Int) (F : Int → Int) (hd : R32 d) (hx : R32 x) (hy : R32 y) (HF : FR g 0 F) (HI : FI F) : Ci l yX4_quarrel wsX4_quarrel { frames := 3, cells := 0, slots := 0, locals := 67 } D yc t1 t2 A (cw a yc) [.ref (a (0)), .int (iI (d)), .int (iI (x)), .int (iI (y))] g (fun r9 g' => r9 = (iI (if (d < 0 ∨ 999 < d) ∨ (x < 0 ∨ 3 < x) ∨ (y < 0 ∨ 3 < y) ∨ x = y then -1 else if F 0 = 0 then -4 else if (ff (qcP F x y) (1000 - d).toNat d) = -1 then -9 else (ff (qcP F x y) (1000 - d).toNat d))) ∧ g' = g) := by
  refine start_i (cc := cX4_quarrel) (nL := 6) (ret := (some .int)) (own := RX4) (by decide +kernel) rfl rfl (Nat.le_of_ble_eq_true rfl) ?_
  intro p e s m9 below meth c9 C
  have wf21 : Cond.fieldLink RX4 21 (TX4 2).1 (TX4 2).2.1 (TX4 2).2.2.1 ∈ wsX4_quarrel := by decide +kernel
  have hinX4 : ∀ w ∈ u_ws RX4 TX4 10, w ∈ wsX4_quarrel := by decide +kernel
  have hn := HI.n
  refine v_lv (lv' := [(0, .ref (a (0))), (1, .int (iI (d))), (2, .int (iI (x))), (3, .int (iI (y)))]) rfl ?_
  refine v_iload_n C 1 dX4_quarrel_0 rfl ?_
  refine v_cS_i C (As := [.int (iI (d))]) (rest := []) (c_X4_isNoDay l D yc t1 t2 A (cw a yc) g d (by omega)) (va_cwS 1 C.hts gX4_quarrel_X4_isNoDay rfl rfl rfl (by decide +kernel) ⟨by decide, by decide⟩) rfl rfl (Nat.le_of_ble_eq_true rfl) dX4_quarrel_1 ?_
  intro r9 g9 h9
  rw [h9.1, h9.2]
  clear h9 g9 r9
  try dsimp only
  refine v_ifb_ne (tgt := 26) C dX4_quarrel_4 (by decide) (fun c4 => ?_) (fun c4 => ?_)
  · skip
    refine v_iconst C dX4_quarrel_26 ?_
    exact v_ret_i C rfl dX4_quarrel_27 ⟨(by repeat (first | rfl | rw [if_pos (by omega)] | rw [if_neg (by omega)])), rfl⟩
  · skip
    refine v_iload_n C 2 dX4_quarrel_7 rfl ?_
    refine v_cS_i C (As := [.int (iI (x))]) (rest := []) (c_X4_isNoReading l D yc t1 t2 A (cw a yc) g x (by omega)) (va_cwS 1 C.hts gX4_quarrel_X4_isNoReading rfl rfl rfl (by decide +kernel) ⟨by decide, by decide⟩) rfl rfl (Nat.le_of_ble_eq_true rfl) dX4_quarrel_8 ?_
    intro r9 g9 h9
    rw [h9.1, h9.2]
    clear h9 g9 r9
    try dsimp only
    refine v_ifb_ne (tgt := 26) C dX4_quarrel_11 (by decide) (fun c11 => ?_) (fun c11 => ?_)
    · skip
      refine v_iconst C dX4_quarrel_26 ?_
      exact v_ret_i C rfl dX4_quarrel_27 ⟨(by repeat (first | rfl | rw [if_pos (by omega)] | rw [if_neg (by omega)])), rfl⟩
    · skip
      refine v_iload_n C 3 dX4_quarrel_14 rfl ?_
      refine v_cS_i C (As := [.int (iI (y))]) (rest := []) (c_X4_isNoReading l D yc t1 t2 A (cw a yc) g y (by omega)) (va_cwS 1 C.hts gX4_quarrel_X4_isNoReading rfl rfl rfl (by decide +kernel) ⟨by decide, by decide⟩) rfl rfl (Nat.le_of_ble_eq_true rfl) dX4_quarrel_15 ?_
      intro r9 g9 h9
      rw [h9.1, h9.2]
      clear h9 g9 r9
      try dsimp only
      refine v_ifb_ne (tgt := 26) C dX4_quarrel_18 (by decide) (fun c18 => ?_) (fun c18 => ?_)
      · skip
        refine v_iconst C dX4_quarrel_26 ?_
        exact v_ret_i C rfl dX4_quarrel_27 ⟨(by repeat (first | rfl | rw [if_pos (by omega)] | rw [if_neg (by omega)])), rfl⟩
      · skip
        refine v_iload_n C 2 dX4_quarrel_21 rfl ?_
        refine v_iload_n C 3 dX4_quarrel_22 rfl ?_
        refine v_icmp_ne (tgt := 28) C dX4_quarrel_23 (by decide) (by omega) (by omega) (fun c23 => ?_) (fun c23 => ?_)
        · skip
          refine v_aload_n C 0 dX4_quarrel_28 rfl ?_
          refine v_getf C (by omega) (by omega) ct_cow rfl 2 (by decide) wf21 hinX4 rfl dX4_quarrel_29 ?_
          refine v_st (st' := [.ref (a (26 + 0))]) rfl ?_
          refine v_cV_i C (As := []) (rest := []) (c_X1_isMissing l D yc t1 t2 a A g 0 F (by omega) HF HI) (cwV 0 C.hts gX4_quarrel_X1_isMissing rfl rfl rfl (by decide +kernel) ⟨by decide, by decide⟩) (fun H hP => va_recv C.hK hP (ci := 1) (q0 := (26 + 0 : Int).toNat) rfl (wo_is (by omega) (by omega) (ct_farm (by omega) (by omega)))) rfl rfl (Nat.le_of_ble_eq_true rfl) dX4_quarrel_32 ?_
          intro r9 g9 h9
          rw [h9.1, h9.2]
          clear h9 g9 r9
          try dsimp only
          refine v_ifb_eq (tgt := 41) C dX4_quarrel_35 (by decide) (fun c35 => ?_) (fun c35 => ?_)
          · skip
            refine v_aload_n C 0 dX4_quarrel_41 rfl ?_
            refine v_getf C (by omega) (by omega) ct_cow rfl 2 (by decide) wf21 hinX4 rfl dX4_quarrel_42 ?_
            refine v_st (st' := [.ref (a (26 + 0))]) rfl ?_
            refine v_iload_n C 1 dX4_quarrel_45 rfl ?_
            refine v_iconst C dX4_quarrel_46 ?_
            refine v_isub C dX4_quarrel_47 ?_
            refine v_cV_i C (As := [.int (iI (d - 1))]) (rest := []) (c_X1_leadUpTo l D yc t1 t2 a A g 0 (d - 1) F (by omega) HF HI (by omega) (by omega)) (cwV 1 C.hts gX4_quarrel_X1_leadUpTo rfl rfl rfl (by decide +kernel) ⟨by decide, by decide⟩) (fun H hP => va_recv C.hK hP (ci := 1) (q0 := (26 + 0 : Int).toNat) rfl (wo_is (by omega) (by omega) (ct_farm (by omega) (by omega)))) rfl rfl (Nat.le_of_ble_eq_true rfl) dX4_quarrel_48 ?_
            intro r9 g9 h9
            rw [h9.1, h9.2]
            clear h9 g9 r9
            try dsimp only
            refine v_st (st' := [.int (iI (sI (ld F) d))]) (by rw [show d - 1 + 1 = d by omega]) ?_
            refine v_istore (lv' := [(4, .int (iI (sI (ld F) d))), (0, .ref (a (0))), (1, .int (iI (d))), (2, .int (iI (x))), (3, .int (iI (y)))]) C dX4_quarrel_51 (by decide) rfl ?_
            refine v_iload_n C 2 dX4_quarrel_53 rfl ?_
            refine v_istore (lv' := [(5, .int (iI (d))), (4, .int (iI (sI (ld F) d))), (0, .ref (a (0))), (1, .int (iI (d))), (2, .int (iI (x))), (3, .int (iI (y)))]) C dX4_quarrel_54 (by decide) rfl ?_
            refine v_loop1 (fun (t : Int) => (1000 - t).toNat) (fun (t : Int) => d ≤ t ∧ t ≤ 1000 ∧ ff (qcP F x y) (1000 - t).toNat t = (ff (qcP F x y) (1000 - d).toNat d)) (fun (t : Int) => [(5, .int (iI (t))), (4, .int (iI (sI (ld F) t))), (0, .ref (a (0))), (1, .int (iI (d))), (2, .int (iI (x))), (3, .int (iI (y)))]) (fun (t : Int) => g) ?_ d ⟨by omega, by omega, rfl⟩
            intro t hI56 ih56
            try dsimp only at ih56 ⊢
            refine v_iload C 0 dX4_quarrel_56 rfl ?_
            refine v_sipush C dX4_quarrel_58 (by decide) ?_
            refine v_icmp_gt (tgt := 108) C dX4_quarrel_61 (by decide) (by omega) (by omega) (fun c61 => ?_) (fun c61 => ?_)
            · skip
              refine v_bipush C dX4_quarrel_108 (by decide) ?_
              exact v_ret_i C rfl dX4_quarrel_110 ⟨(by rw [if_neg (by omega), if_neg (by omega), ← hI56.2.2, ff_e (by omega), if_pos rfl]), rfl⟩
            · skip
              refine v_iload C 1 dX4_quarrel_64 rfl ?_
              refine v_aload_n C 2 dX4_quarrel_66 rfl ?_
              refine v_getf C (by omega) (by omega) ct_cow rfl 2 (by decide) wf21 hinX4 rfl dX4_quarrel_67 ?_
              refine v_st (st' := [.ref (a (26 + 0)), .int (iI (sI (ld F) t))]) rfl ?_
              refine v_iload C 0 dX4_quarrel_70 rfl ?_
              refine v_cV_i C (As := [.int (iI (t))]) (rest := [.int (iI (sI (ld F) t))]) (c_X1_leadOn l D yc t1 t2 a A g 0 t F (by omega) HF HI (by omega) (by omega)) (cwV 1 C.hts gX4_quarrel_X1_leadOn rfl rfl rfl (by decide +kernel) ⟨by decide, by decide⟩) (fun H hP => va_recv C.hK hP (ci := 1) (q0 := (26 + 0 : Int).toNat) rfl (wo_is (by omega) (by omega) (ct_farm (by omega) (by omega)))) rfl rfl (Nat.le_of_ble_eq_true rfl) dX4_quarrel_72 ?_
              intro r9 g9 h9
              rw [h9.1, h9.2]
              clear h9 g9 r9
              try dsimp only
              have hsb0 := sI_bd (h := ld F) (B := 9) (n := t) (fun e _ _ => ld9 HI (by omega) e) (by omega)
              refine v_iadd C dX4_quarrel_75 ?_
              refine v_st (st' := [.int (iI (sI (ld F) (t + 1)))]) (by rw [sI_s _ (by omega)]; rfl) ?_
              refine v_istore (lv' := [(4, .int (iI (sI (ld F) (t + 1)))), (5, .int (iI (t))), (0, .ref (a (0))), (1, .int (iI (d))), (2, .int (iI (x))), (3, .int (iI (y)))]) C dX4_quarrel_76 (by decide) rfl ?_
              have hsb := sI_bd (h := ld F) (B := 9) (n := t + 1) (fun e _ _ => ld9 HI (by omega) e) (by omega)
              have r1 := cb_r HI (by omega) t x (sI (ld F) (t + 1))
              have r2 := cb_r HI (by omega) t y (sI (ld F) (t + 1))
              refine v_aload_n C 2 dX4_quarrel_78 rfl ?_
              refine v_iload C 1 dX4_quarrel_79 rfl ?_
              refine v_iload_n C 4 dX4_quarrel_81 rfl ?_
              refine v_iload C 0 dX4_quarrel_82 rfl ?_
              refine v_cV_i C (As := [.int (iI (t)), .int (iI (x)), .int (iI (sI (ld F) (t + 1)))]) (rest := []) (c_X4_calfByReading l D yc t1 t2 a A g t x (sI (ld F) (t + 1)) F (by omega) (by omega) (by omega) HF HI (by omega) (by omega) (by omega)) (cwV 3 C.hts gX4_quarrel_X4_calfByReading rfl rfl rfl (by decide +kernel) ⟨by decide, by decide⟩) (fun H hP => va_recv C.hK hP (ci := 4) (q0 := (0 : Int).toNat) rfl (wo_is (by omega) (by omega) ct_cow)) rfl rfl (Nat.le_of_ble_eq_true rfl) dX4_quarrel_84 ?_
              intro r9 g9 h9
              rw [h9.1, h9.2]
              clear h9 g9 r9
              try dsimp only
              refine v_aload_n C 2 dX4_quarrel_87 rfl ?_
              refine v_iload C 1 dX4_quarrel_88 rfl ?_
              refine v_iload_n C 5 dX4_quarrel_90 rfl ?_
              refine v_iload C 0 dX4_quarrel_91 rfl ?_
              refine v_cV_i C (As := [.int (iI (t)), .int (iI (y)), .int (iI (sI (ld F) (t + 1)))]) (rest := [.int (iI (cb F t x (sI (ld F) (t + 1))))]) (c_X4_calfByReading l D yc t1 t2 a A g t y (sI (ld F) (t + 1)) F (by omega) (by omega) (by omega) HF HI (by omega) (by omega) (by omega)) (cwV 3 C.hts gX4_quarrel_X4_calfByReading rfl rfl rfl (by decide +kernel) ⟨by decide, by decide⟩) (fun H hP => va_recv C.hK hP (ci := 4) (q0 := (0 : Int).toNat) rfl (wo_is (by omega) (by omega) ct_cow)) rfl rfl (Nat.le_of_ble_eq_true rfl) dX4_quarrel_93 ?_
              intro r9 g9 h9
              rw [h9.1, h9.2]
              clear h9 g9 r9
              try dsimp only
              refine v_icmp_eq (tgt := 102) C dX4_quarrel_96 (by decide) (by omega) (by omega) (fun c96 => ?_) (fun c96 => ?_)
              · skip
                refine v_iinc (z' := t + 1) (lv' := [(5, .int (iI (t + 1))), (4, .int (iI (sI (ld F) (t + 1)))), (0, .ref (a (0))), (1, .int (iI (d))), (2, .int (iI (x))), (3, .int (iI (y)))]) C 1 dX4_quarrel_102 rfl (by omega) (by decide) rfl ?_
                refine v_goto (tgt := 56) C dX4_quarrel_105 (by decide) ?_
                exact ih56 (t + 1) ⟨by omega, by omega, by rw [← hI56.2.2]; exact (ff_n (by omega) (fun h => absurd (of_decide_eq_true h) (by omega))).symm⟩ (by omega)
              · skip
                refine v_iload C 1 dX4_quarrel_99 rfl ?_
                exact v_ret_i C rfl dX4_quarrel_101 ⟨(by rw [if_neg (by omega), if_neg (by omega), ← hI56.2.2, ff_y (by omega) (decide_eq_true (by omega)), if_neg (by omega)]), rfl⟩
          · skip
            refine v_bipush C dX4_quarrel_38 (by decide) ?_
            exact v_ret_i C rfl dX4_quarrel_40 ⟨(by repeat (first | rfl | rw [if_pos (by omega)] | rw [if_neg (by omega)])), rfl⟩
        · skip
          refine v_iconst C dX4_quarrel_26 ?_
          exact v_ret_i C rfl dX4_quarrel_27 ⟨(by repeat (first | rfl | rw [if_pos (by omega)] | rw [if_neg (by omega)])), rfl⟩
