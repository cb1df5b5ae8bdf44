set_option maxRecDepth 100000 in
set_option maxHeartbeats 4000000 in
theorem c_X4_sum (l : Launch) (D : va_G) (yc : Nat → ClassId) (t1 t2 : Nat) (a : Int → Nat) (A : Nat → Prop) (g : Mm) (F : Int → Int) (HF : FR g 0 F) (HI : FI F) : Ci l yX4_sum wsX4_sum { frames := 3, cells := 0, slots := 0, locals := 68 } D yc t1 t2 A (cw a yc) [.ref (a (0))] g (fun r9 g' => r9 = (iI (if F 0 = 0 then -4 else if (ff (smP F) 100 0) = -1 then -9 else (ff (smP F) 100 0))) ∧ g' = (if F 0 = 0 then g else if (ff (smP F) 100 0) = -1 then g else mu g 0 7 (if (ff (smP F) 100 0) = 0 then -9 else if fP F (ow F) (F 5 - (ff (smP F) 100 0)) then 0 else 1))) := by
  refine start_i (cc := cX4_sum) (nL := 4) (ret := (some .int)) (own := RX4) (by decide +kernel) rfl rfl (Nat.le_of_ble_eq_true rfl) ?_
  intro p e s m9 below meth c9 C
  have wf21 : Cond.fieldLink RX4 21 (TX4 2).1 (TX4 2).2.1 (TX4 2).2.2.1 ∈ wsX4_sum := by decide +kernel
  have hinX4 : ∀ w ∈ u_ws RX4 TX4 10, w ∈ wsX4_sum := by decide +kernel
  have wf171 : Cond.fieldLink RX4 171 (TX1 10).1 (TX1 10).2.1 (TX1 10).2.2.1 ∈ wsX4_sum := by decide +kernel
  have hinX1 : ∀ w ∈ u_ws RX1 TX1 11, w ∈ wsX4_sum := by decide +kernel
  have wf74 : Cond.fieldLink RX4 74 (TX4 7).1 (TX4 7).2.1 (TX4 7).2.2.1 ∈ wsX4_sum := by decide +kernel
  have hn := HI.n
  have ho := ow_bd HI
  have hnt := HI.net
  refine v_lv (lv' := [(0, .ref (a (0)))]) rfl ?_
  refine v_aload_n C 0 dX4_sum_0 rfl ?_
  refine v_getf C (by omega) (by omega) ct_cow rfl 2 (by decide) wf21 hinX4 rfl dX4_sum_1 ?_
  refine v_st (st' := [.ref (a (26 + 0))]) rfl ?_
  refine v_cV_i C (As := []) (rest := []) (c_X1_isMissing l D yc t1 t2 a A g 0 F (by omega) HF HI) (cwV 0 C.hts gX4_sum_X1_isMissing rfl rfl rfl (by decide +kernel) ⟨by decide, by decide⟩) (fun H hP => va_recv C.hK hP (ci := 1) (q0 := (26 + 0 : Int).toNat) rfl (wo_is (by omega) (by omega) (ct_farm (by omega) (by omega)))) rfl rfl (Nat.le_of_ble_eq_true rfl) dX4_sum_4 ?_
  intro r9 g9 h9
  rw [h9.1, h9.2]
  clear h9 g9 r9
  try dsimp only
  refine v_ifb_eq (tgt := 13) C dX4_sum_7 (by decide) (fun c7 => ?_) (fun c7 => ?_)
  · skip
    refine v_aload_n C 0 dX4_sum_13 rfl ?_
    refine v_getf C (by omega) (by omega) ct_cow rfl 2 (by decide) wf21 hinX4 rfl dX4_sum_14 ?_
    refine v_st (st' := [.ref (a (26 + 0))]) rfl ?_
    refine v_iconst C dX4_sum_17 ?_
    refine v_cV_i C (As := [.int (iI (1))]) (rest := []) (c_X1_setOf l D yc t1 t2 a A g 0 1 F (by omega) HF HI (by omega)) (cwV 1 C.hts gX4_sum_X1_setOf rfl rfl rfl (by decide +kernel) ⟨by decide, by decide⟩) (fun H hP => va_recv C.hK hP (ci := 1) (q0 := (26 + 0 : Int).toNat) rfl (wo_is (by omega) (by omega) (ct_farm (by omega) (by omega)))) rfl rfl (Nat.le_of_ble_eq_true rfl) dX4_sum_18 ?_
    intro r9 g9 h9
    rw [h9.1, h9.2]
    clear h9 g9 r9
    try dsimp only
    refine v_st (st' := [.int (iI (ow F))]) rfl ?_
    refine v_istore_n (lv' := [(1, .int (iI (ow F))), (0, .ref (a (0)))]) C dX4_sum_21 (by decide) rfl ?_
    refine v_iconst C dX4_sum_22 ?_
    refine v_istore_n (lv' := [(2, .int (iI (0))), (1, .int (iI (ow F))), (0, .ref (a (0)))]) C dX4_sum_23 (by decide) rfl ?_
    refine v_lv (congrArg (fun x9 => ([(2, .int (iI x9)), (1, .int (iI (ow F))), (0, .ref (a (0)))] : List (Nat × Value))) (show (0) = (((0 : Int))) by first | rfl | omega | (simp; done))) ?_
    refine v_loop1 (fun (t : Int) => (100 - t).toNat) (fun (t : Int) => 0 ≤ t ∧ t ≤ 100 ∧ ff (smP F) (100 - t).toNat t = (ff (smP F) 100 0)) (fun (t : Int) => [(2, .int (iI (t))), (1, .int (iI (ow F))), (0, .ref (a (0)))]) (fun (t : Int) => g) ?_ 0 ⟨by omega, by omega, rfl⟩
    intro t hI24 ih24
    try dsimp only at ih24 ⊢
    refine v_iload_n C 0 dX4_sum_24 rfl ?_
    refine v_bipush C dX4_sum_25 (by decide) ?_
    refine v_icmp_gt (tgt := 102) C dX4_sum_27 (by decide) (by omega) (by omega) (fun c27 => ?_) (fun c27 => ?_)
    · skip
      refine v_bipush C dX4_sum_102 (by decide) ?_
      exact v_ret_i C rfl dX4_sum_104 ⟨(by rw [if_neg (by omega), ← hI24.2.2, ff_e (by omega), if_pos rfl]), (by rw [if_neg (by omega), ← hI24.2.2, ff_e (by omega), if_pos rfl])⟩
    · skip
      have hx9 := hI24.2.2
      refine v_aload_n C 2 dX4_sum_30 rfl ?_
      refine v_getf C (by omega) (by omega) ct_cow rfl 2 (by decide) wf21 hinX4 rfl dX4_sum_31 ?_
      refine v_st (st' := [.ref (a (26 + 0))]) rfl ?_
      refine v_iload_n C 1 dX4_sum_34 rfl ?_
      refine v_aload_n C 2 dX4_sum_35 rfl ?_
      refine v_getf C (by omega) (by omega) ct_cow rfl 2 (by decide) wf21 hinX4 rfl dX4_sum_36 ?_
      refine v_st (st' := [.ref (a (26 + 0)), .int (iI (ow F)), .ref (a (26 + 0))]) rfl ?_
      refine v_getf C (by omega) (by omega) (ct_farm (by omega) (by omega)) rfl 10 (by decide) wf171 hinX1 rfl dX4_sum_39 ?_
      refine v_st (st' := [.int (iI (F 5)), .int (iI (ow F)), .ref (a (26 + 0))]) (by rw [HF.pd]) ?_
      refine v_iload_n C 0 dX4_sum_42 rfl ?_
      refine v_isub C dX4_sum_43 ?_
      refine v_cV_i C (As := [.int (iI (ow F)), .int (iI ((F 5) - t))]) (rest := []) (c_X1_noneEnvies l D yc t1 t2 a A g 0 (ow F) ((F 5) - t) F (by omega) HF HI (by omega) (by omega)) (cwV 2 C.hts gX4_sum_X1_noneEnvies rfl rfl rfl (by decide +kernel) ⟨by decide, by decide⟩) (fun H hP => va_recv C.hK hP (ci := 1) (q0 := (26 + 0 : Int).toNat) rfl (wo_is (by omega) (by omega) (ct_farm (by omega) (by omega)))) rfl rfl (Nat.le_of_ble_eq_true rfl) dX4_sum_44 ?_
      intro r9 g9 h9
      rw [h9.1, h9.2]
      clear h9 g9 r9
      try dsimp only
      refine v_istore_n (lv' := [(3, .int (bI (VB F (ow F) 1 0 - ((F 5) - t) ≤ VB F (ow F) 0 0 + ((F 5) - t) ∧ VB F (ow F) 0 1 + ((F 5) - t) ≤ VB F (ow F) 1 1 - ((F 5) - t)))), (2, .int (iI (t))), (1, .int (iI (ow F))), (0, .ref (a (0)))]) C dX4_sum_47 (by decide) rfl ?_
      refine v_iload_n C 0 dX4_sum_48 rfl ?_
      refine v_ifb_ne (tgt := 72) C dX4_sum_49 (by decide) (fun c49 => ?_) (fun c49 => ?_)
      · skip
        refine v_aload_n C 3 dX4_sum_72 rfl ?_
        refine v_iload_n C 1 dX4_sum_73 rfl ?_
        refine v_cut1 91 (fun (v91 : Int) => v91 = if t = 0 then -9 else if fP F (ow F) (F 5 - t) then 0 else 1) (fun (v91 : Int) => [(3, .int (bI (VB F (ow F) 1 0 - ((F 5) - t) ≤ VB F (ow F) 0 0 + ((F 5) - t) ∧ VB F (ow F) 0 1 + ((F 5) - t) ≤ VB F (ow F) 1 1 - ((F 5) - t)))), (2, .int (iI (t))), (1, .int (iI (ow F))), (0, .ref (a (0)))]) (fun (v91 : Int) => [.int (iI (v91)), .ref (a (0))]) (fun (v91 : Int) => g) ?_ ?_
        · intro v91 hj91
          try dsimp only
          refine v_puti C (cta_L a yc) (by omega) (by omega) ct_cow rfl 7 (by decide) wf74 hinX4 tyX4 tyX4_ok nmX4 rfl (by decide +kernel) (by simp) cs_cow_7 dX4_sum_91 ?_
          refine v_g (g' := (mu g (0) (7) (v91))) rfl ?_
          refine v_iload_n C 1 dX4_sum_94 rfl ?_
          exact v_ret_i C rfl dX4_sum_95 ⟨(by rw [if_neg (by omega), ← hx9, ff_y (by omega) (decide_eq_true (by omega)), if_neg (by omega)]), (by rw [if_neg (by omega), ← hx9, ff_y (by omega) (decide_eq_true (by omega)), if_neg (by omega), hj91])⟩
        · intro jn91
          try dsimp only at jn91
          refine v_if_ne (tgt := 82) C dX4_sum_74 (by decide) (by omega) (fun c74 => ?_) (fun c74 => ?_)
          · skip
            refine v_iload_n C 0 dX4_sum_82 rfl ?_
            refine v_ifb_eq (tgt := 90) C dX4_sum_83 (by decide) (fun c83 => ?_) (fun c83 => ?_)
            · skip
              refine v_iconst C dX4_sum_90 ?_
              exact jn91 1 (by first | (exfalso; omega) | repeat (first | rfl | rw [if_pos (by omega)] | rw [if_neg (by omega)]))
            · skip
              refine v_iconst C dX4_sum_86 ?_
              refine v_goto (tgt := 91) C dX4_sum_87 (by decide) ?_
              exact jn91 0 (by first | (exfalso; omega) | repeat (first | rfl | rw [if_pos (by omega)] | rw [if_neg (by omega)]))
          · skip
            refine v_bipush C dX4_sum_77 (by decide) ?_
            refine v_goto (tgt := 91) C dX4_sum_79 (by decide) ?_
            exact jn91 (-9) (by first | (exfalso; omega) | repeat (first | rfl | rw [if_pos (by omega)] | rw [if_neg (by omega)]))
      · skip
        refine v_aload_n C 3 dX4_sum_52 rfl ?_
        refine v_getf C (by omega) (by omega) ct_cow rfl 2 (by decide) wf21 hinX4 rfl dX4_sum_53 ?_
        refine v_st (st' := [.ref (a (26 + 0))]) rfl ?_
        refine v_iload_n C 2 dX4_sum_56 rfl ?_
        refine v_aload_n C 3 dX4_sum_57 rfl ?_
        refine v_getf C (by omega) (by omega) ct_cow rfl 2 (by decide) wf21 hinX4 rfl dX4_sum_58 ?_
        refine v_st (st' := [.ref (a (26 + 0)), .int (iI (ow F)), .ref (a (26 + 0))]) rfl ?_
        refine v_getf C (by omega) (by omega) (ct_farm (by omega) (by omega)) rfl 10 (by decide) wf171 hinX1 rfl dX4_sum_61 ?_
        refine v_st (st' := [.int (iI (F 5)), .int (iI (ow F)), .ref (a (26 + 0))]) (by rw [HF.pd]) ?_
        refine v_iload_n C 1 dX4_sum_64 rfl ?_
        refine v_iadd C dX4_sum_65 ?_
        refine v_cV_i C (As := [.int (iI (ow F)), .int (iI ((F 5) + t))]) (rest := []) (c_X1_noneEnvies l D yc t1 t2 a A g 0 (ow F) ((F 5) + t) F (by omega) HF HI (by omega) (by omega)) (cwV 2 C.hts gX4_sum_X1_noneEnvies rfl rfl rfl (by decide +kernel) ⟨by decide, by decide⟩) (fun H hP => va_recv C.hK hP (ci := 1) (q0 := (26 + 0 : Int).toNat) rfl (wo_is (by omega) (by omega) (ct_farm (by omega) (by omega)))) rfl rfl (Nat.le_of_ble_eq_true rfl) dX4_sum_66 ?_
        intro r9 g9 h9
        rw [h9.1, h9.2]
        clear h9 g9 r9
        try dsimp only
        refine v_ifb_eq (tgt := 96) C dX4_sum_69 (by decide) (fun c69 => ?_) (fun c69 => ?_)
        · skip
          refine v_iinc (z' := t + 1) (lv' := [(2, .int (iI (t + 1))), (3, .int (bI (VB F (ow F) 1 0 - ((F 5) - t) ≤ VB F (ow F) 0 0 + ((F 5) - t) ∧ VB F (ow F) 0 1 + ((F 5) - t) ≤ VB F (ow F) 1 1 - ((F 5) - t)))), (1, .int (iI (ow F))), (0, .ref (a (0)))]) C 1 dX4_sum_96 rfl (by omega) (by decide) rfl ?_
          refine v_goto (tgt := 24) C dX4_sum_99 (by decide) ?_
          refine v_sub (lv' := [(2, .int (iI (t + 1))), (1, .int (iI (ow F))), (0, .ref (a (0)))]) [0, 2, 3] rfl ?_
          exact ih24 (t + 1) ⟨by omega, by omega, by rw [← hx9]; exact (ff_n (by omega) (fun h => absurd (of_decide_eq_true h) (by omega))).symm⟩ (by omega)
        · skip
          refine v_aload_n C 3 dX4_sum_72 rfl ?_
          refine v_iload_n C 1 dX4_sum_73 rfl ?_
          refine v_cut1 91 (fun (v91 : Int) => v91 = if t = 0 then -9 else if fP F (ow F) (F 5 - t) then 0 else 1) (fun (v91 : Int) => [(3, .int (bI (VB F (ow F) 1 0 - ((F 5) - t) ≤ VB F (ow F) 0 0 + ((F 5) - t) ∧ VB F (ow F) 0 1 + ((F 5) - t) ≤ VB F (ow F) 1 1 - ((F 5) - t)))), (2, .int (iI (t))), (1, .int (iI (ow F))), (0, .ref (a (0)))]) (fun (v91 : Int) => [.int (iI (v91)), .ref (a (0))]) (fun (v91 : Int) => g) ?_ ?_
          · intro v91 hj91
            try dsimp only
            refine v_puti C (cta_L a yc) (by omega) (by omega) ct_cow rfl 7 (by decide) wf74 hinX4 tyX4 tyX4_ok nmX4 rfl (by decide +kernel) (by simp) cs_cow_7 dX4_sum_91 ?_
            refine v_g (g' := (mu g (0) (7) (v91))) rfl ?_
            refine v_iload_n C 1 dX4_sum_94 rfl ?_
            exact v_ret_i C rfl dX4_sum_95 ⟨(by rw [if_neg (by omega), ← hx9, ff_y (by omega) (decide_eq_true (by omega)), if_neg (by omega)]), (by rw [if_neg (by omega), ← hx9, ff_y (by omega) (decide_eq_true (by omega)), if_neg (by omega), hj91])⟩
          · intro jn91
            try dsimp only at jn91
            refine v_if_ne (tgt := 82) C dX4_sum_74 (by decide) (by omega) (fun c74 => ?_) (fun c74 => ?_)
            · skip
              refine v_iload_n C 0 dX4_sum_82 rfl ?_
              refine v_ifb_eq (tgt := 90) C dX4_sum_83 (by decide) (fun c83 => ?_) (fun c83 => ?_)
              · skip
                refine v_iconst C dX4_sum_90 ?_
                exact jn91 1 (by first | (exfalso; omega) | repeat (first | rfl | rw [if_pos (by omega)] | rw [if_neg (by omega)]))
              · skip
                refine v_iconst C dX4_sum_86 ?_
                refine v_goto (tgt := 91) C dX4_sum_87 (by decide) ?_
                exact jn91 0 (by first | (exfalso; omega) | repeat (first | rfl | rw [if_pos (by omega)] | rw [if_neg (by omega)]))
            · skip
              refine v_bipush C dX4_sum_77 (by decide) ?_
              refine v_goto (tgt := 91) C dX4_sum_79 (by decide) ?_
              exact jn91 (-9) (by first | (exfalso; omega) | repeat (first | rfl | rw [if_pos (by omega)] | rw [if_neg (by omega)]))
  · skip
    refine v_bipush C dX4_sum_10 (by decide) ?_
    exact v_ret_i C rfl dX4_sum_12 ⟨(by repeat (first | rfl | rw [if_pos (by omega)] | rw [if_neg (by omega)])), (by repeat (first | rfl | rw [if_pos (by omega)] | rw [if_neg (by omega)]))⟩
