set_option maxRecDepth 100000 in
set_option maxHeartbeats 4000000 in
theorem c_X5_fits (l : Launch) (D : va_G) (yc : Nat → ClassId) (t1 t2 : Nat) (a : Int → Nat) (A : Nat → Prop) (g : Mm) (r n : Int) (hr : R32 r) (hn : R32 n) (HM : MI g) : Ci l yX5_fits wsX5_fits { frames := 3, cells := 0, slots := 0, locals := 65 } D yc t1 t2 A (mw a yc) [.ref (a (0)), .int (iI (r)), .int (iI (n))] g (fun r9 g' => r9 = (iI (if (r < 0 ∨ 5 < r) ∨ (n < 1 ∨ 8 < n) then -1 else if ¬ wrg g r = 0 then -3 else 1)) ∧ g' = (if (r < 0 ∨ 5 < r) ∨ (n < 1 ∨ 8 < n) then g else if ¬ wrg g r = 0 then fnM g (wrg g r) else mu (mu (mu g 0 12 (ftN g r n (pw n))) 0 13 1) 0 11 (ft1 g r n (pw n).toNat))) := by
  refine start_i (cc := cX5_fits) (nL := 8) (ret := (some .int)) (own := RX5) (by decide +kernel) rfl rfl (Nat.le_of_ble_eq_true rfl) ?_
  intro p e s m9 below meth c9 C
  have wf55 : Cond.fieldLink RX5 55 (TX5 12).1 (TX5 12).2.1 (TX5 12).2.2.1 ∈ wsX5_fits := by decide +kernel
  have hinX5 : ∀ w ∈ u_ws RX5 TX5 17, w ∈ wsX5_fits := by decide +kernel
  have wf44 : Cond.fieldLink RX5 44 (TX5 13).1 (TX5 13).2.1 (TX5 13).2.2.1 ∈ wsX5_fits := by decide +kernel
  have hW5 := wrg_bd g r
  refine v_lv (lv' := [(0, .ref (a (0))), (1, .int (iI (r))), (2, .int (iI (n)))]) rfl ?_
  refine v_iload_n C 1 dX5_fits_0 rfl ?_
  refine v_cS_i C (As := [.int (iI (r))]) (rest := []) (c_X5_isRow l D yc t1 t2 A (mw a yc) g r (by omega)) (va_cwS 1 C.hts gX5_fits_X5_isRow rfl rfl rfl (by decide +kernel) ⟨by decide, by decide⟩) rfl rfl (Nat.le_of_ble_eq_true rfl) dX5_fits_1 ?_
  intro r9 g9 h9
  rw [h9.1, h9.2]
  clear h9 g9 r9
  try dsimp only
  refine v_ifb_eq (tgt := 17) C dX5_fits_4 (by decide) (fun c4 => ?_) (fun c4 => ?_)
  · skip
    refine v_iconst C dX5_fits_17 ?_
    exact v_ret_i C rfl dX5_fits_18 ⟨(by repeat (first | rfl | rw [if_pos (by omega)] | rw [if_neg (by omega)])), (by repeat (first | rfl | rw [if_pos (by omega)] | rw [if_neg (by omega)]))⟩
  · skip
    refine v_iload_n C 2 dX5_fits_7 rfl ?_
    refine v_iconst C dX5_fits_8 ?_
    refine v_bipush C dX5_fits_9 (by decide) ?_
    refine v_cS_i C (As := [.int (iI (n)), .int (iI (1)), .int (iI (8))]) (rest := []) (c_X5_in l D yc t1 t2 A (mw a yc) g n 1 8 (by omega) (by omega) (by omega)) (va_cwS 3 C.hts gX5_fits_X5_in rfl rfl rfl (by decide +kernel) ⟨by decide, by decide⟩) rfl rfl (Nat.le_of_ble_eq_true rfl) dX5_fits_11 ?_
    intro r9 g9 h9
    rw [h9.1, h9.2]
    clear h9 g9 r9
    try dsimp only
    refine v_ifb_ne (tgt := 19) C dX5_fits_14 (by decide) (fun c14 => ?_) (fun c14 => ?_)
    · skip
      refine v_aload_n C 0 dX5_fits_19 rfl ?_
      refine v_iload_n C 1 dX5_fits_20 rfl ?_
      refine v_cV_i C (As := [.int (iI (r))]) (rest := []) (c_X5_wrongIn l D yc t1 t2 a A g r (by omega) HM) (cwV 1 C.hts gX5_fits_X5_wrongIn rfl rfl rfl (by decide +kernel) ⟨by decide, by decide⟩) (fun H hP => va_recv C.hK hP (ci := 5) (q0 := (0 : Int).toNat) rfl (wo_is (by omega) (by omega) ct_mod)) rfl rfl (Nat.le_of_ble_eq_true rfl) dX5_fits_21 ?_
      intro r9 g9 h9
      rw [h9.1, h9.2]
      clear h9 g9 r9
      try dsimp only
      refine v_istore_n (lv' := [(3, .int (iI (wrg g r))), (0, .ref (a (0))), (1, .int (iI (r))), (2, .int (iI (n)))]) C dX5_fits_24 (by decide) rfl ?_
      refine v_iload_n C 0 dX5_fits_25 rfl ?_
      refine v_if_eq (tgt := 35) C dX5_fits_26 (by decide) (by omega) (fun c26 => ?_) (fun c26 => ?_)
      · skip
        have hs := HM.sz (r := r) (by omega) (by omega)
        have hz := wrg_z c26
        have hp8 := pw_8 (n := n) (by omega) (by omega)
        refine v_iconst C dX5_fits_35 ?_
        refine v_istore (lv' := [(4, .int (iI (0))), (3, .int (iI (wrg g r))), (0, .ref (a (0))), (1, .int (iI (r))), (2, .int (iI (n)))]) C dX5_fits_36 (by decide) rfl ?_
        refine v_bipush C dX5_fits_38 (by decide) ?_
        refine v_istore (lv' := [(5, .int (iI (-9))), (4, .int (iI (0))), (3, .int (iI (wrg g r))), (0, .ref (a (0))), (1, .int (iI (r))), (2, .int (iI (n)))]) C dX5_fits_40 (by decide) rfl ?_
        refine v_iconst C dX5_fits_42 ?_
        refine v_istore (lv' := [(6, .int (iI (0))), (5, .int (iI (-9))), (4, .int (iI (0))), (3, .int (iI (wrg g r))), (0, .ref (a (0))), (1, .int (iI (r))), (2, .int (iI (n)))]) C dX5_fits_43 (by decide) rfl ?_
        refine v_lv (congrArg (fun x9 => ([(6, .int (iI x9)), (5, .int (iI (-9))), (4, .int (iI (0))), (3, .int (iI (wrg g r))), (0, .ref (a (0))), (1, .int (iI (r))), (2, .int (iI (n)))] : List (Nat × Value))) (show (0) = (((0 : Int))) by first | rfl | omega | (simp; done))) ?_
        refine v_lv (congrArg (fun x9 => ([(6, .int (iI (((0 : Int))))), (5, .int (iI x9)), (4, .int (iI (0))), (3, .int (iI (wrg g r))), (0, .ref (a (0))), (1, .int (iI (r))), (2, .int (iI (n)))] : List (Nat × Value))) (show (-9) = (ft1 g r n ((0 : Int)).toNat) by first | rfl | omega | (simp; done))) ?_
        refine v_lv (congrArg (fun x9 => ([(6, .int (iI (((0 : Int))))), (5, .int (iI (ft1 g r n ((0 : Int)).toNat))), (4, .int (iI x9)), (3, .int (iI (wrg g r))), (0, .ref (a (0))), (1, .int (iI (r))), (2, .int (iI (n)))] : List (Nat × Value))) (show (0) = (ftN g r n ((0 : Int))) by first | rfl | omega | (simp; done))) ?_
        refine v_loop1 (fun (t : Int) => (pw n - t).toNat) (fun (t : Int) => 0 ≤ t ∧ t ≤ pw n) (fun (t : Int) => [(6, .int (iI (t))), (5, .int (iI (ft1 g r n t.toNat))), (4, .int (iI (ftN g r n t))), (3, .int (iI (wrg g r))), (0, .ref (a (0))), (1, .int (iI (r))), (2, .int (iI (n)))]) (fun (t : Int) => g) ?_ 0 (by omega)
        intro t hI45 ih45
        try dsimp only at ih45 ⊢
        refine v_iload C 0 dX5_fits_45 rfl ?_
        refine v_iconst C dX5_fits_47 ?_
        refine v_iload_n C 6 dX5_fits_48 rfl ?_
        refine v_ishl (z := (iI (pw n))) C dX5_fits_49 (shl_1 (by omega) (by omega)) ?_
        refine v_icmp_ge (tgt := 103) C dX5_fits_50 (by decide) (by omega) (by omega) (fun c50 => ?_) (fun c50 => ?_)
        · skip
          have htp : t = pw n := by omega
          have hfn := ft1_N (g := g) (r := r) (n := n) (t := pw n) (by omega)
          refine v_lv (congrArg (fun x9 => ([(6, .int (iI (t))), (5, .int (iI (ft1 g r n t.toNat))), (4, .int (iI x9)), (3, .int (iI (wrg g r))), (0, .ref (a (0))), (1, .int (iI (r))), (2, .int (iI (n)))] : List (Nat × Value))) (show (ftN g r n t) = ((ftN g r n (pw n))) by rw [htp])) ?_
          refine v_lv (congrArg (fun x9 => ([(6, .int (iI (t))), (5, .int (iI x9)), (4, .int (iI ((ftN g r n (pw n))))), (3, .int (iI (wrg g r))), (0, .ref (a (0))), (1, .int (iI (r))), (2, .int (iI (n)))] : List (Nat × Value))) (show (ft1 g r n t.toNat) = ((ft1 g r n (pw n).toNat)) by rw [htp])) ?_
          refine v_aload_n C 4 dX5_fits_103 rfl ?_
          refine v_iload C 2 dX5_fits_104 rfl ?_
          refine v_i2l C dX5_fits_106 (by omega) ?_
          refine v_putl C (ctm_L a yc) (by omega) (by omega) ct_mod rfl 12 (by decide) wf55 hinX5 tyX5 tyX5_ok nmX5 rfl (by decide +kernel) (by simp) cs_mod_12 dX5_fits_107 ?_
          refine v_g (g' := (mu g (0) (12) ((ftN g r n (pw n))))) rfl ?_
          refine v_aload_n C 4 dX5_fits_110 rfl ?_
          refine v_lconst (z := 1) C dX5_fits_111 (by decide) ?_
          refine v_putl C (ctm_L a yc) (by omega) (by omega) ct_mod rfl 13 (by decide) wf44 hinX5 tyX5 tyX5_ok nmX5 rfl (by decide +kernel) (by simp) cs_mod_13 dX5_fits_112 ?_
          refine v_g (g' := (mu (mu g (0) (12) ((ftN g r n (pw n)))) (0) (13) (1))) rfl ?_
          refine v_aload_n C 4 dX5_fits_115 rfl ?_
          refine v_iconst C dX5_fits_116 ?_
          refine v_iload C 1 dX5_fits_117 rfl ?_
          refine v_cV_i C (As := [.int (iI (1)), .int (iI ((ft1 g r n (pw n).toNat)))]) (rest := []) (c_X5_tells l D yc t1 t2 a A (mu (mu g (0) (12) ((ftN g r n (pw n)))) (0) (13) (1)) 1 ((ft1 g r n (pw n).toNat))) (cwV 2 C.hts gX5_fits_X5_tells rfl rfl rfl (by decide +kernel) ⟨by decide, by decide⟩) (fun H hP => va_recv C.hK hP (ci := 5) (q0 := (0 : Int).toNat) rfl (wo_is (by omega) (by omega) ct_mod)) rfl rfl (Nat.le_of_ble_eq_true rfl) dX5_fits_119 ?_
          intro r9 g9 h9
          rw [h9.1, h9.2]
          clear h9 g9 r9
          try dsimp only
          exact v_ret_i C rfl dX5_fits_122 ⟨(by repeat (first | rfl | rw [if_pos (by omega)] | rw [if_neg (by omega)])), (by repeat (first | rfl | rw [if_pos (by omega)] | rw [if_neg (by omega)]))⟩
        · skip
          refine v_aload_n C 4 dX5_fits_53 rfl ?_
          refine v_iload C 0 dX5_fits_54 rfl ?_
          refine v_iload_n C 5 dX5_fits_56 rfl ?_
          refine v_iload_n C 6 dX5_fits_57 rfl ?_
          refine v_cV_i C (As := [.int (iI (t)), .int (iI (r)), .int (iI (n))]) (rest := []) (c_X5_fitsBy l D yc t1 t2 a A g t r n (by omega) (by omega) (by omega) c26 (by omega)) (cwV 3 C.hts gX5_fits_X5_fitsBy rfl rfl rfl (by decide +kernel) ⟨by decide, by decide⟩) (fun H hP => va_recv C.hK hP (ci := 5) (q0 := (0 : Int).toNat) rfl (wo_is (by omega) (by omega) ct_mod)) rfl rfl (Nat.le_of_ble_eq_true rfl) dX5_fits_58 ?_
          intro r9 g9 h9
          rw [h9.1, h9.2]
          clear h9 g9 r9
          try dsimp only
          refine v_istore (lv' := [(7, .int (bI (ftP g r n t))), (6, .int (iI (t))), (5, .int (iI (ft1 g r n t.toNat))), (4, .int (iI (ftN g r n t))), (3, .int (iI (wrg g r))), (0, .ref (a (0))), (1, .int (iI (r))), (2, .int (iI (n)))]) C dX5_fits_61 (by decide) rfl ?_
          have hfn := ft1_N (g := g) (r := r) (n := n) (t := t) (by omega)
          have hfe : ftN g r n (t + 1) = ftN g r n t + if ftP g r n t then 1 else 0 := sI_s _ (by omega)
          refine v_cut1 80 (fun (v80 : Int) => v80 = ft1 g r n (t + 1).toNat) (fun (v80 : Int) => [(7, .int (bI (ftP g r n t))), (6, .int (iI (t))), (5, .int (iI (ft1 g r n t.toNat))), (4, .int (iI (ftN g r n t))), (3, .int (iI (wrg g r))), (0, .ref (a (0))), (1, .int (iI (r))), (2, .int (iI (n)))]) (fun (v80 : Int) => [.int (iI (v80))]) (fun (v80 : Int) => g) ?_ ?_
          · intro v80 hj80
            try dsimp only
            refine v_st (st' := [.int (iI (ft1 g r n (t + 1).toNat))]) (by rw [hj80]) ?_
            refine v_istore (lv' := [(5, .int (iI (ft1 g r n (t + 1).toNat))), (7, .int (bI (ftP g r n t))), (6, .int (iI (t))), (4, .int (iI (ftN g r n t))), (3, .int (iI (wrg g r))), (0, .ref (a (0))), (1, .int (iI (r))), (2, .int (iI (n)))]) C dX5_fits_80 (by decide) rfl ?_
            refine v_iload C 3 dX5_fits_82 rfl ?_
            refine v_cut1 94 (fun (v94 : Int) => v94 = if ftP g r n t then 1 else 0) (fun (v94 : Int) => [(5, .int (iI (ft1 g r n (t + 1).toNat))), (7, .int (bI (ftP g r n t))), (6, .int (iI (t))), (4, .int (iI (ftN g r n t))), (3, .int (iI (wrg g r))), (0, .ref (a (0))), (1, .int (iI (r))), (2, .int (iI (n)))]) (fun (v94 : Int) => [.int (iI (v94)), .int (iI (ftN g r n t))]) (fun (v94 : Int) => g) ?_ ?_
            · intro v94 hj94
              try dsimp only
              refine v_iadd C dX5_fits_94 ?_
              refine v_st (st' := [.int (iI (ftN g r n (t + 1)))]) (by rw [hj94, hfe]) ?_
              refine v_istore (lv' := [(4, .int (iI (ftN g r n (t + 1)))), (5, .int (iI (ft1 g r n (t + 1).toNat))), (7, .int (bI (ftP g r n t))), (6, .int (iI (t))), (3, .int (iI (wrg g r))), (0, .ref (a (0))), (1, .int (iI (r))), (2, .int (iI (n)))]) C dX5_fits_95 (by decide) rfl ?_
              refine v_iinc (z' := t + 1) (lv' := [(6, .int (iI (t + 1))), (4, .int (iI (ftN g r n (t + 1)))), (5, .int (iI (ft1 g r n (t + 1).toNat))), (7, .int (bI (ftP g r n t))), (3, .int (iI (wrg g r))), (0, .ref (a (0))), (1, .int (iI (r))), (2, .int (iI (n)))]) C 3 dX5_fits_97 rfl (by omega) (by decide) rfl ?_
              refine v_goto (tgt := 45) C dX5_fits_100 (by decide) ?_
              refine v_sub (lv' := [(6, .int (iI (t + 1))), (5, .int (iI (ft1 g r n (t + 1).toNat))), (4, .int (iI (ftN g r n (t + 1)))), (3, .int (iI (wrg g r))), (0, .ref (a (0))), (1, .int (iI (r))), (2, .int (iI (n)))]) [0, 2, 1, 4, 5, 6, 7] rfl ?_
              exact ih45 (t + 1) (by omega) (by omega)
            · intro jn94
              try dsimp only at jn94
              refine v_iload C 1 dX5_fits_84 rfl ?_
              refine v_ifb_eq (tgt := 93) C dX5_fits_86 (by decide) (fun c86 => ?_) (fun c86 => ?_)
              · skip
                refine v_iconst C dX5_fits_93 ?_
                exact jn94 0 (by first | rw [if_pos c86] | rw [if_neg c86])
              · skip
                refine v_iconst C dX5_fits_89 ?_
                refine v_goto (tgt := 94) C dX5_fits_90 (by decide) ?_
                exact jn94 1 (by first | rw [if_pos c86] | rw [if_neg c86])
          · intro jn80
            try dsimp only at jn80
            have hfn := ft1_N (g := g) (r := r) (n := n) (t := t) (by omega)
            have hfe : ftN g r n (t + 1) = ftN g r n t + if ftP g r n t then 1 else 0 := sI_s _ (by omega)
            refine v_iload C 0 dX5_fits_63 rfl ?_
            refine v_ifb_eq (tgt := 78) C dX5_fits_65 (by decide) (fun c65 => ?_) (fun c65 => ?_)
            · skip
              refine v_iload C 2 dX5_fits_78 rfl ?_
              exact jn80 (ft1 g r n t.toNat) (by rw [ft1_s (t := t) (by omega)]; first | rw [if_pos (by omega), if_pos c65] | rw [if_neg (by omega)] | (rw [if_pos (by omega), if_neg c65]; omega) | (rcases Classical.em (ft1 g r n t.toNat = -9) with h8 | h8 <;> first | (rw [if_pos h8, if_neg c65]; omega) | rw [if_neg h8]))
            · skip
              refine v_iload C 3 dX5_fits_68 rfl ?_
              refine v_if_ne (tgt := 78) C dX5_fits_70 (by decide) (by omega) (fun c70 => ?_) (fun c70 => ?_)
              · skip
                refine v_iload C 2 dX5_fits_78 rfl ?_
                exact jn80 (ft1 g r n t.toNat) (by rw [ft1_s (t := t) (by omega)]; first | rw [if_pos (by omega), if_pos c65] | rw [if_neg (by omega)] | (rw [if_pos (by omega), if_neg c65]; omega) | (rcases Classical.em (ft1 g r n t.toNat = -9) with h8 | h8 <;> first | (rw [if_pos h8, if_neg c65]; omega) | rw [if_neg h8]))
              · skip
                refine v_iload C 1 dX5_fits_73 rfl ?_
                refine v_goto (tgt := 80) C dX5_fits_75 (by decide) ?_
                exact jn80 t (by rw [ft1_s (t := t) (by omega)]; first | rw [if_pos (by omega), if_pos c65] | rw [if_neg (by omega)] | (rw [if_pos (by omega), if_neg c65]; omega) | (rcases Classical.em (ft1 g r n t.toNat = -9) with h8 | h8 <;> first | (rw [if_pos h8, if_neg c65]; omega) | rw [if_neg h8]))
      · skip
        refine v_aload_n C 1 dX5_fits_29 rfl ?_
        refine v_iload_n C 0 dX5_fits_30 rfl ?_
        refine v_cV_i C (As := [.int (iI (wrg g r))]) (rest := []) (c_X5_finds l D yc t1 t2 a A g (wrg g r) (by omega)) (cwV 1 C.hts gX5_fits_X5_finds rfl rfl rfl (by decide +kernel) ⟨by decide, by decide⟩) (fun H hP => va_recv C.hK hP (ci := 5) (q0 := (0 : Int).toNat) rfl (wo_is (by omega) (by omega) ct_mod)) rfl rfl (Nat.le_of_ble_eq_true rfl) dX5_fits_31 ?_
        intro r9 g9 h9
        rw [h9.1, h9.2]
        clear h9 g9 r9
        try dsimp only
        exact v_ret_i C rfl dX5_fits_34 ⟨(by repeat (first | rfl | rw [if_pos (by omega)] | rw [if_neg (by omega)])), (by repeat (first | rfl | rw [if_pos (by omega)] | rw [if_neg (by omega)]))⟩
    · skip
      refine v_iconst C dX5_fits_17 ?_
      exact v_ret_i C rfl dX5_fits_18 ⟨(by repeat (first | rfl | rw [if_pos (by omega)] | rw [if_neg (by omega)])), (by repeat (first | rfl | rw [if_pos (by omega)] | rw [if_neg (by omega)]))⟩

set_option maxRecDepth 100000 in
set_option maxHeartbeats 4000000 in
theorem c_X5_sure (l : Launch) (D : va_G) (yc : Nat → ClassId) (t1 t2 : Nat) (a : Int → Nat) (A : Nat → Prop) (g : Mm) (r n d : Int) (hr : R32 r) (hn : R32 n) (hd : R32 d) (HM : MI g) : Ci l yX5_sure wsX5_sure { frames := 3, cells := 0, slots := 0, locals := 65 } D yc t1 t2 A (mw a yc) [.ref (a (0)), .int (iI (r)), .int (iI (n)), .int (iI (d))] g (fun r9 g' => r9 = (iI (if (r < 0 ∨ 5 < r) ∨ (n < 1 ∨ 8 < n) ∨ (d < 0 ∨ 999 < d) then -1 else if ¬ wrg g r = 0 then -3 else if ¬ ft0 g r n d 0 (pw n) = 0 ∧ ft0 g r n d 1 (pw n) = 0 then 0 else if ft0 g r n d 0 (pw n) = 0 ∧ ¬ ft0 g r n d 1 (pw n) = 0 then 1 else -9)) ∧ g' = (if (r < 0 ∨ 5 < r) ∨ (n < 1 ∨ 8 < n) ∨ (d < 0 ∨ 999 < d) then g else if ¬ wrg g r = 0 then fnM g (wrg g r) else g)) := by
  refine start_i (cc := cX5_sure) (nL := 7) (ret := (some .int)) (own := RX5) (by decide +kernel) rfl rfl (Nat.le_of_ble_eq_true rfl) ?_
  intro p e s m9 below meth c9 C
  have hW5 := wrg_bd g r
  refine v_lv (lv' := [(0, .ref (a (0))), (1, .int (iI (r))), (2, .int (iI (n))), (3, .int (iI (d)))]) rfl ?_
  refine v_iload_n C 1 dX5_sure_0 rfl ?_
  refine v_cS_i C (As := [.int (iI (r))]) (rest := []) (c_X5_isRow l D yc t1 t2 A (mw a yc) g r (by omega)) (va_cwS 1 C.hts gX5_sure_X5_isRow rfl rfl rfl (by decide +kernel) ⟨by decide, by decide⟩) rfl rfl (Nat.le_of_ble_eq_true rfl) dX5_sure_1 ?_
  intro r9 g9 h9
  rw [h9.1, h9.2]
  clear h9 g9 r9
  try dsimp only
  refine v_ifb_eq (tgt := 24) C dX5_sure_4 (by decide) (fun c4 => ?_) (fun c4 => ?_)
  · skip
    refine v_iconst C dX5_sure_24 ?_
    exact v_ret_i C rfl dX5_sure_25 ⟨(by repeat (first | rfl | rw [if_pos (by omega)] | rw [if_neg (by omega)])), (by repeat (first | rfl | rw [if_pos (by omega)] | rw [if_neg (by omega)]))⟩
  · skip
    refine v_iload_n C 2 dX5_sure_7 rfl ?_
    refine v_iconst C dX5_sure_8 ?_
    refine v_bipush C dX5_sure_9 (by decide) ?_
    refine v_cS_i C (As := [.int (iI (n)), .int (iI (1)), .int (iI (8))]) (rest := []) (c_X5_in l D yc t1 t2 A (mw a yc) g n 1 8 (by omega) (by omega) (by omega)) (va_cwS 3 C.hts gX5_sure_X5_in rfl rfl rfl (by decide +kernel) ⟨by decide, by decide⟩) rfl rfl (Nat.le_of_ble_eq_true rfl) dX5_sure_11 ?_
    intro r9 g9 h9
    rw [h9.1, h9.2]
    clear h9 g9 r9
    try dsimp only
    refine v_ifb_eq (tgt := 24) C dX5_sure_14 (by decide) (fun c14 => ?_) (fun c14 => ?_)
    · skip
      refine v_iconst C dX5_sure_24 ?_
      exact v_ret_i C rfl dX5_sure_25 ⟨(by repeat (first | rfl | rw [if_pos (by omega)] | rw [if_neg (by omega)])), (by repeat (first | rfl | rw [if_pos (by omega)] | rw [if_neg (by omega)]))⟩
    · skip
      refine v_iload_n C 3 dX5_sure_17 rfl ?_
      refine v_cS_i C (As := [.int (iI (d))]) (rest := []) (c_X5_isDay l D yc t1 t2 A (mw a yc) g d (by omega)) (va_cwS 1 C.hts gX5_sure_X5_isDay rfl rfl rfl (by decide +kernel) ⟨by decide, by decide⟩) rfl rfl (Nat.le_of_ble_eq_true rfl) dX5_sure_18 ?_
      intro r9 g9 h9
      rw [h9.1, h9.2]
      clear h9 g9 r9
      try dsimp only
      refine v_ifb_ne (tgt := 26) C dX5_sure_21 (by decide) (fun c21 => ?_) (fun c21 => ?_)
      · skip
        refine v_aload_n C 0 dX5_sure_26 rfl ?_
        refine v_iload_n C 1 dX5_sure_27 rfl ?_
        refine v_cV_i C (As := [.int (iI (r))]) (rest := []) (c_X5_wrongIn l D yc t1 t2 a A g r (by omega) HM) (cwV 1 C.hts gX5_sure_X5_wrongIn rfl rfl rfl (by decide +kernel) ⟨by decide, by decide⟩) (fun H hP => va_recv C.hK hP (ci := 5) (q0 := (0 : Int).toNat) rfl (wo_is (by omega) (by omega) ct_mod)) rfl rfl (Nat.le_of_ble_eq_true rfl) dX5_sure_28 ?_
        intro r9 g9 h9
        rw [h9.1, h9.2]
        clear h9 g9 r9
        try dsimp only
        refine v_istore (lv' := [(4, .int (iI (wrg g r))), (0, .ref (a (0))), (1, .int (iI (r))), (2, .int (iI (n))), (3, .int (iI (d)))]) C dX5_sure_31 (by decide) rfl ?_
        refine v_iload C 0 dX5_sure_33 rfl ?_
        refine v_if_eq (tgt := 45) C dX5_sure_35 (by decide) (by omega) (fun c35 => ?_) (fun c35 => ?_)
        · skip
          have hs := HM.sz (r := r) (by omega) (by omega)
          have hz := wrg_z c35
          have hp8 := pw_8 (n := n) (by omega) (by omega)
          have hm := emd (d := d) (n := n) (by omega)
          refine v_iconst C dX5_sure_45 ?_
          refine v_istore (lv' := [(5, .int (iI (0))), (4, .int (iI (wrg g r))), (0, .ref (a (0))), (1, .int (iI (r))), (2, .int (iI (n))), (3, .int (iI (d)))]) C dX5_sure_46 (by decide) rfl ?_
          refine v_iconst C dX5_sure_48 ?_
          refine v_istore (lv' := [(6, .int (iI (0))), (5, .int (iI (0))), (4, .int (iI (wrg g r))), (0, .ref (a (0))), (1, .int (iI (r))), (2, .int (iI (n))), (3, .int (iI (d)))]) C dX5_sure_49 (by decide) rfl ?_
          refine v_lv (congrArg (fun x9 => ([(6, .int (iI x9)), (5, .int (iI (0))), (4, .int (iI (wrg g r))), (0, .ref (a (0))), (1, .int (iI (r))), (2, .int (iI (n))), (3, .int (iI (d)))] : List (Nat × Value))) (show (0) = (((0 : Int))) by first | rfl | omega | (simp; done))) ?_
          refine v_lv (congrArg (fun x9 => ([(6, .int (iI (((0 : Int))))), (5, .int (iI x9)), (4, .int (iI (wrg g r))), (0, .ref (a (0))), (1, .int (iI (r))), (2, .int (iI (n))), (3, .int (iI (d)))] : List (Nat × Value))) (show (0) = (((0 : Int))) by first | rfl | omega | (simp; done))) ?_
          refine v_loop2 (fun (b : Int) (t : Int) => (pw n - t).toNat) (fun (b : Int) (t : Int) => 0 ≤ t ∧ t ≤ pw n ∧ b = (if ft0 g r n d 0 t = 0 then 0 else 1) + (if ft0 g r n d 1 t = 0 then 0 else 2)) (fun (b : Int) (t : Int) => [(6, .int (iI (t))), (5, .int (iI (b))), (4, .int (iI (wrg g r))), (0, .ref (a (0))), (1, .int (iI (r))), (2, .int (iI (n))), (3, .int (iI (d)))]) (fun (b : Int) (t : Int) => g) ?_ 0 0 ⟨by omega, by omega, rfl⟩
          intro b t hI51 ih51
          try dsimp only at ih51 ⊢
          have hb3 : 0 ≤ b ∧ b ≤ 3 := by rw [hI51.2.2]; split <;> split <;> omega
          refine v_iload C 0 dX5_sure_51 rfl ?_
          refine v_iconst C dX5_sure_53 ?_
          refine v_iload_n C 5 dX5_sure_54 rfl ?_
          refine v_ishl (z := (iI (pw n))) C dX5_sure_55 (shl_1 (by omega) (by omega)) ?_
          refine v_icmp_ge (tgt := 95) C dX5_sure_56 (by decide) (by omega) (by omega) (fun c56 => ?_) (fun c56 => ?_)
          · skip
            have htp : t = pw n := by omega
            rw [htp] at hI51
            have n0 := ft0_nn g r n d 0 (k := pw n) (by omega)
            have n1 := ft0_nn g r n d 1 (k := pw n) (by omega)
            refine v_iload C 1 dX5_sure_95 rfl ?_
            refine v_iconst C dX5_sure_97 ?_
            refine v_icmp_ne (tgt := 105) C dX5_sure_98 (by decide) (by omega) (by omega) (fun c98 => ?_) (fun c98 => ?_)
            · skip
              refine v_iload C 1 dX5_sure_105 rfl ?_
              refine v_iconst C dX5_sure_107 ?_
              refine v_icmp_ne (tgt := 115) C dX5_sure_108 (by decide) (by omega) (by omega) (fun c108 => ?_) (fun c108 => ?_)
              · skip
                refine v_bipush C dX5_sure_115 (by decide) ?_
                exact v_ret_i C rfl dX5_sure_117 ⟨(by have h9 := hI51.2.2; rw [if_neg (by omega), if_neg (by omega)]; by_cases h7 : ft0 g r n d 0 (pw n) = 0 <;> by_cases h8 : ft0 g r n d 1 (pw n) = 0 <;> simp only [h7, h8, if_true, if_false] at h9 <;> first | (exfalso; omega) | simp [h7, h8]), (by repeat (first | rfl | rw [if_pos (by omega)] | rw [if_neg (by omega)]))⟩
              · skip
                refine v_iconst C dX5_sure_111 ?_
                refine v_goto (tgt := 117) C dX5_sure_112 (by decide) ?_
                exact v_ret_i C rfl dX5_sure_117 ⟨(by have h9 := hI51.2.2; rw [if_neg (by omega), if_neg (by omega)]; by_cases h7 : ft0 g r n d 0 (pw n) = 0 <;> by_cases h8 : ft0 g r n d 1 (pw n) = 0 <;> simp only [h7, h8, if_true, if_false] at h9 <;> first | (exfalso; omega) | simp [h7, h8]), (by repeat (first | rfl | rw [if_pos (by omega)] | rw [if_neg (by omega)]))⟩
            · skip
              refine v_iconst C dX5_sure_101 ?_
              refine v_goto (tgt := 117) C dX5_sure_102 (by decide) ?_
              exact v_ret_i C rfl dX5_sure_117 ⟨(by have h9 := hI51.2.2; rw [if_neg (by omega), if_neg (by omega)]; by_cases h7 : ft0 g r n d 0 (pw n) = 0 <;> by_cases h8 : ft0 g r n d 1 (pw n) = 0 <;> simp only [h7, h8, if_true, if_false] at h9 <;> first | (exfalso; omega) | simp [h7, h8]), (by repeat (first | rfl | rw [if_pos (by omega)] | rw [if_neg (by omega)]))⟩
          · skip
            have hb01 := bt01 t (d % n)
            have e0 : ft0 g r n d 0 (t + 1) = ft0 g r n d 0 t + if ftP g r n t ∧ bt t (d % n) = 0 then 1 else 0 := sI_s _ (by omega)
            have e1 : ft0 g r n d 1 (t + 1) = ft0 g r n d 1 t + if ftP g r n t ∧ bt t (d % n) = 1 then 1 else 0 := sI_s _ (by omega)
            have n0 := ft0_nn g r n d 0 (k := t) (by omega)
            have n1 := ft0_nn g r n d 1 (k := t) (by omega)
            refine v_iload C 1 dX5_sure_59 rfl ?_
            refine v_cut1 86 (fun (v86 : Int) => v86 = if ftP g r n t then 1 + bt t (d % n) else 0) (fun (v86 : Int) => [(6, .int (iI (t))), (5, .int (iI (b))), (4, .int (iI (wrg g r))), (0, .ref (a (0))), (1, .int (iI (r))), (2, .int (iI (n))), (3, .int (iI (d)))]) (fun (v86 : Int) => [.int (iI (v86)), .int (iI (b))]) (fun (v86 : Int) => g) ?_ ?_
            · intro v86 hj86
              try dsimp only
              have hv86 : 0 ≤ v86 ∧ v86 ≤ 2 := by rw [hj86]; split <;> omega
              refine v_ior (z := (iI (or2 b v86))) C dX5_sure_86 (or2_e (by omega) (by omega)) ?_
              refine v_istore (lv' := [(5, .int (iI (or2 b v86))), (6, .int (iI (t))), (4, .int (iI (wrg g r))), (0, .ref (a (0))), (1, .int (iI (r))), (2, .int (iI (n))), (3, .int (iI (d)))]) C dX5_sure_87 (by decide) rfl ?_
              refine v_iinc (z' := t + 1) (lv' := [(6, .int (iI (t + 1))), (5, .int (iI (or2 b v86))), (4, .int (iI (wrg g r))), (0, .ref (a (0))), (1, .int (iI (r))), (2, .int (iI (n))), (3, .int (iI (d)))]) C 1 dX5_sure_89 rfl (by omega) (by decide) rfl ?_
              refine v_goto (tgt := 51) C dX5_sure_92 (by decide) ?_
              exact ih51 (or2 b v86) (t + 1) ⟨by omega, by omega, sure_step hI51.2.2 hj86 hb01 n0.1 n1.1 e0 e1⟩ (by omega)
            · intro jn86
              try dsimp only at jn86
              refine v_aload_n C 3 dX5_sure_61 rfl ?_
              refine v_iload C 0 dX5_sure_62 rfl ?_
              refine v_iload_n C 4 dX5_sure_64 rfl ?_
              refine v_iload_n C 5 dX5_sure_65 rfl ?_
              refine v_cV_i C (As := [.int (iI (t)), .int (iI (r)), .int (iI (n))]) (rest := [.int (iI (b))]) (c_X5_fitsBy l D yc t1 t2 a A g t r n (by omega) (by omega) (by omega) c35 (by omega)) (cwV 3 C.hts gX5_sure_X5_fitsBy rfl rfl rfl (by decide +kernel) ⟨by decide, by decide⟩) (fun H hP => va_recv C.hK hP (ci := 5) (q0 := (0 : Int).toNat) rfl (wo_is (by omega) (by omega) ct_mod)) rfl rfl (Nat.le_of_ble_eq_true rfl) dX5_sure_66 ?_
              intro r9 g9 h9
              rw [h9.1, h9.2]
              clear h9 g9 r9
              try dsimp only
              refine v_ifb_eq (tgt := 85) C dX5_sure_69 (by decide) (fun c69 => ?_) (fun c69 => ?_)
              · skip
                refine v_iconst C dX5_sure_85 ?_
                exact jn86 0 (by first | rw [if_pos c69] | rw [if_neg c69])
              · skip
                refine v_iconst C dX5_sure_72 ?_
                refine v_iload C 0 dX5_sure_73 rfl ?_
                refine v_iload_n C 6 dX5_sure_75 rfl ?_
                refine v_iload_n C 5 dX5_sure_76 rfl ?_
                refine v_irem C dX5_sure_77 (by omega) (by omega) (by omega) (by omega) ?_
                refine v_ishr (z := (iI (t / pw (d % n)))) C dX5_sure_78 (shr_bt (by omega) (by omega) (by omega) (by omega)) ?_
                refine v_iconst C dX5_sure_79 ?_
                refine v_iand (z := (iI (bt t (d % n)))) C dX5_sure_80 (and_1 (Int.ediv_nonneg (by omega) (by have := pw_pos (d % n); omega)) (Int.lt_of_le_of_lt (Int.ediv_le_self _ (by omega)) (by omega))) ?_
                refine v_ishl (z := (iI (1 + bt t (d % n)))) C dX5_sure_81 (by rw [shl_1 (by omega) (by omega)]; rcases hb01 with h8 | h8 <;> rw [h8] <;> rfl) ?_
                refine v_goto (tgt := 86) C dX5_sure_82 (by decide) ?_
                exact jn86 (1 + bt t (d % n)) (by first | rw [if_pos c69] | rw [if_neg c69])
        · skip
          refine v_aload_n C 1 dX5_sure_38 rfl ?_
          refine v_iload C 0 dX5_sure_39 rfl ?_
          refine v_cV_i C (As := [.int (iI (wrg g r))]) (rest := []) (c_X5_finds l D yc t1 t2 a A g (wrg g r) (by omega)) (cwV 1 C.hts gX5_sure_X5_finds rfl rfl rfl (by decide +kernel) ⟨by decide, by decide⟩) (fun H hP => va_recv C.hK hP (ci := 5) (q0 := (0 : Int).toNat) rfl (wo_is (by omega) (by omega) ct_mod)) rfl rfl (Nat.le_of_ble_eq_true rfl) dX5_sure_41 ?_
          intro r9 g9 h9
          rw [h9.1, h9.2]
          clear h9 g9 r9
          try dsimp only
          exact v_ret_i C rfl dX5_sure_44 ⟨(by repeat (first | rfl | rw [if_pos (by omega)] | rw [if_neg (by omega)])), (by repeat (first | rfl | rw [if_pos (by omega)] | rw [if_neg (by omega)]))⟩
      · skip
        refine v_iconst C dX5_sure_24 ?_
        exact v_ret_i C rfl dX5_sure_25 ⟨(by repeat (first | rfl | rw [if_pos (by omega)] | rw [if_neg (by omega)])), (by repeat (first | rfl | rw [if_pos (by omega)] | rw [if_neg (by omega)]))⟩

set_option maxRecDepth 100000 in
set_option maxHeartbeats 4000000 in
theorem c_X5_odds (l : Launch) (D : va_G) (yc : Nat → ClassId) (t1 t2 : Nat) (a : Int → Nat) (A : Nat → Prop) (g : Mm) (q n x : Int) (hq : R32 q) (hn : R32 n) (hx : R32 x) (HI : FI (g 6)) : Ci l yX5_odds wsX5_odds { frames := 1, cells := 0, slots := 0, locals := 30 } D yc t1 t2 A (mw a yc) [.ref (a (0)), .int (iI (q)), .int (iI (n)), .int (iI (x))] g (fun r9 g' => r9 = (iI (if (q < 0 ∨ 1 < q) ∨ (n < 0 ∨ 8 < n) ∨ (x < 0 ∨ 12 < x) then -1 else if g 6 0 = 0 then -4 else 1)) ∧ g' = (if (q < 0 ∨ 1 < q) ∨ (n < 0 ∨ 8 < n) ∨ (x < 0 ∨ 12 < x) then g else if g 6 0 = 0 then g else mu (mu g 0 12 ((od (g 6) q x n.toNat) / (Int.gcd (od (g 6) q x n.toNat) (pr 12 n.toNat) : Int))) 0 13 ((pr 12 n.toNat) / (Int.gcd (od (g 6) q x n.toNat) (pr 12 n.toNat) : Int)))) := by
  refine start_i (cc := cX5_odds) (nL := 11) (ret := (some .int)) (own := RX5) (by decide +kernel) rfl rfl (Nat.le_of_ble_eq_true rfl) ?_
  intro p e s m9 below meth c9 C
  have wk206 : Cond.constantLong RX5 206 12 ∈ wsX5_odds := by decide +kernel
  have wf25 : Cond.fieldLink RX5 25 (TX5 5).1 (TX5 5).2.1 (TX5 5).2.2.1 ∈ wsX5_odds := by decide +kernel
  have hinX5 : ∀ w ∈ u_ws RX5 TX5 17, w ∈ wsX5_odds := by decide +kernel
  have hn9 := HI.n
  have htd := HI.td
  refine v_lv (lv' := [(0, .ref (a (0))), (1, .int (iI (q))), (2, .int (iI (n))), (3, .int (iI (x)))]) rfl ?_
  refine v_iload_n C 1 dX5_odds_0 rfl ?_
  refine v_iconst C dX5_odds_1 ?_
  refine v_iconst C dX5_odds_2 ?_
  refine v_cS_i C (As := [.int (iI (q)), .int (iI (0)), .int (iI (1))]) (rest := []) (c_X5_in l D yc t1 t2 A (mw a yc) g q 0 1 (by omega) (by omega) (by omega)) (va_cwS 3 C.hts gX5_odds_X5_in rfl rfl rfl (by decide +kernel) ⟨by decide, by decide⟩) rfl rfl (Nat.le_of_ble_eq_true rfl) dX5_odds_3 ?_
  intro r9 g9 h9
  rw [h9.1, h9.2]
  clear h9 g9 r9
  try dsimp only
  refine v_ifb_eq (tgt := 29) C dX5_odds_6 (by decide) (fun c6 => ?_) (fun c6 => ?_)
  · skip
    refine v_iconst C dX5_odds_29 ?_
    exact v_ret_i C rfl dX5_odds_30 ⟨(by repeat (first | rfl | rw [if_pos (by omega)] | rw [if_neg (by omega)])), (by repeat (first | rfl | rw [if_pos (by omega)] | rw [if_neg (by omega)]))⟩
  · skip
    refine v_iload_n C 2 dX5_odds_9 rfl ?_
    refine v_iconst C dX5_odds_10 ?_
    refine v_bipush C dX5_odds_11 (by decide) ?_
    refine v_cS_i C (As := [.int (iI (n)), .int (iI (0)), .int (iI (8))]) (rest := []) (c_X5_in l D yc t1 t2 A (mw a yc) g n 0 8 (by omega) (by omega) (by omega)) (va_cwS 3 C.hts gX5_odds_X5_in rfl rfl rfl (by decide +kernel) ⟨by decide, by decide⟩) rfl rfl (Nat.le_of_ble_eq_true rfl) dX5_odds_13 ?_
    intro r9 g9 h9
    rw [h9.1, h9.2]
    clear h9 g9 r9
    try dsimp only
    refine v_ifb_eq (tgt := 29) C dX5_odds_16 (by decide) (fun c16 => ?_) (fun c16 => ?_)
    · skip
      refine v_iconst C dX5_odds_29 ?_
      exact v_ret_i C rfl dX5_odds_30 ⟨(by repeat (first | rfl | rw [if_pos (by omega)] | rw [if_neg (by omega)])), (by repeat (first | rfl | rw [if_pos (by omega)] | rw [if_neg (by omega)]))⟩
    · skip
      refine v_iload_n C 3 dX5_odds_19 rfl ?_
      refine v_iconst C dX5_odds_20 ?_
      refine v_bipush C dX5_odds_21 (by decide) ?_
      refine v_cS_i C (As := [.int (iI (x)), .int (iI (0)), .int (iI (12))]) (rest := []) (c_X5_in l D yc t1 t2 A (mw a yc) g x 0 12 (by omega) (by omega) (by omega)) (va_cwS 3 C.hts gX5_odds_X5_in rfl rfl rfl (by decide +kernel) ⟨by decide, by decide⟩) rfl rfl (Nat.le_of_ble_eq_true rfl) dX5_odds_23 ?_
      intro r9 g9 h9
      rw [h9.1, h9.2]
      clear h9 g9 r9
      try dsimp only
      refine v_ifb_ne (tgt := 31) C dX5_odds_26 (by decide) (fun c26 => ?_) (fun c26 => ?_)
      · skip
        refine v_aload_n C 0 dX5_odds_31 rfl ?_
        refine v_cV_i C (As := []) (rest := []) (c_X5_are l D yc t1 t2 a A g HI) (cwV 0 C.hts gX5_odds_X5_are rfl rfl rfl (by decide +kernel) ⟨by decide, by decide⟩) (fun H hP => va_recv C.hK hP (ci := 5) (q0 := (0 : Int).toNat) rfl (wo_is (by omega) (by omega) ct_mod)) rfl rfl (Nat.le_of_ble_eq_true rfl) dX5_odds_32 ?_
        intro r9 g9 h9
        rw [h9.1, h9.2]
        clear h9 g9 r9
        try dsimp only
        refine v_ifb_ne (tgt := 41) C dX5_odds_35 (by decide) (fun c35 => ?_) (fun c35 => ?_)
        · skip
          refine v_lconst (z := 0) C dX5_odds_41 (by decide) ?_
          refine v_lstore (lv' := [(4, .long (lI (0))), (0, .ref (a (0))), (1, .int (iI (q))), (2, .int (iI (n))), (3, .int (iI (x)))]) C dX5_odds_42 (by decide) rfl ?_
          refine v_lconst (z := 1) C dX5_odds_44 (by decide) ?_
          refine v_lstore (lv' := [(6, .long (lI (1))), (4, .long (lI (0))), (0, .ref (a (0))), (1, .int (iI (q))), (2, .int (iI (n))), (3, .int (iI (x)))]) C dX5_odds_45 (by decide) rfl ?_
          refine v_lconst (z := 1) C dX5_odds_47 (by decide) ?_
          refine v_lstore (lv' := [(8, .long (lI (1))), (6, .long (lI (1))), (4, .long (lI (0))), (0, .ref (a (0))), (1, .int (iI (q))), (2, .int (iI (n))), (3, .int (iI (x)))]) C dX5_odds_48 (by decide) rfl ?_
          refine v_iconst C dX5_odds_50 ?_
          refine v_istore (lv' := [(10, .int (iI (0))), (8, .long (lI (1))), (6, .long (lI (1))), (4, .long (lI (0))), (0, .ref (a (0))), (1, .int (iI (q))), (2, .int (iI (n))), (3, .int (iI (x)))]) C dX5_odds_51 (by decide) rfl ?_
          refine v_lv (congrArg (fun x9 => ([(10, .int (iI x9)), (8, .long (lI (1))), (6, .long (lI (1))), (4, .long (lI (0))), (0, .ref (a (0))), (1, .int (iI (q))), (2, .int (iI (n))), (3, .int (iI (x)))] : List (Nat × Value))) (show (0) = (((0 : Int))) by first | rfl | omega | (simp; done))) ?_
          refine v_lv (congrArg (fun x9 => ([(10, .int (iI (((0 : Int))))), (8, .long (lI x9)), (6, .long (lI (1))), (4, .long (lI (0))), (0, .ref (a (0))), (1, .int (iI (q))), (2, .int (iI (n))), (3, .int (iI (x)))] : List (Nat × Value))) (show (1) = (pr (12 - x) ((0 : Int)).toNat) by first | rfl | omega | (simp; done))) ?_
          refine v_lv (congrArg (fun x9 => ([(10, .int (iI (((0 : Int))))), (8, .long (lI (pr (12 - x) ((0 : Int)).toNat))), (6, .long (lI x9)), (4, .long (lI (0))), (0, .ref (a (0))), (1, .int (iI (q))), (2, .int (iI (n))), (3, .int (iI (x)))] : List (Nat × Value))) (show (1) = (pr 12 ((0 : Int)).toNat) by first | rfl | omega | (simp; done))) ?_
          refine v_lv (congrArg (fun x9 => ([(10, .int (iI (((0 : Int))))), (8, .long (lI (pr (12 - x) ((0 : Int)).toNat))), (6, .long (lI (pr 12 ((0 : Int)).toNat))), (4, .long (lI x9)), (0, .ref (a (0))), (1, .int (iI (q))), (2, .int (iI (n))), (3, .int (iI (x)))] : List (Nat × Value))) (show (0) = (od (g 6) q x ((0 : Int)).toNat) by first | rfl | omega | (simp; done))) ?_
          refine v_loop1 (fun (t : Int) => (n - t).toNat) (fun (t : Int) => 0 ≤ t ∧ t ≤ n) (fun (t : Int) => [(10, .int (iI (t))), (8, .long (lI (pr (12 - x) t.toNat))), (6, .long (lI (pr 12 t.toNat))), (4, .long (lI (od (g 6) q x t.toNat))), (0, .ref (a (0))), (1, .int (iI (q))), (2, .int (iI (n))), (3, .int (iI (x)))]) (fun (t : Int) => g) ?_ 0 (by omega)
          intro t hI53 ih53
          try dsimp only at ih53 ⊢
          refine v_iload C 0 dX5_odds_53 rfl ?_
          refine v_iload_n C 6 dX5_odds_55 rfl ?_
          refine v_icmp_ge (tgt := 118) C dX5_odds_56 (by decide) (by omega) (by omega) (fun c56 => ?_) (fun c56 => ?_)
          · skip
            have htn : t = n := by omega
            have hob := od_bd (F := g 6) (q := q) (p := x) (by omega) (by omega) n.toNat
            have hpb := pr12 ⟨n.toNat, by omega⟩
            simp only at hpb
            refine v_lv (congrArg (fun x9 => ([(10, .int (iI (t))), (8, .long (lI (pr (12 - x) t.toNat))), (6, .long (lI (pr 12 t.toNat))), (4, .long (lI x9)), (0, .ref (a (0))), (1, .int (iI (q))), (2, .int (iI (n))), (3, .int (iI (x)))] : List (Nat × Value))) (show (od (g 6) q x t.toNat) = ((od (g 6) q x n.toNat)) by rw [htn])) ?_
            refine v_lv (congrArg (fun x9 => ([(10, .int (iI (t))), (8, .long (lI (pr (12 - x) t.toNat))), (6, .long (lI x9)), (4, .long (lI ((od (g 6) q x n.toNat)))), (0, .ref (a (0))), (1, .int (iI (q))), (2, .int (iI (n))), (3, .int (iI (x)))] : List (Nat × Value))) (show (pr 12 t.toNat) = ((pr 12 n.toNat)) by rw [htn])) ?_
            refine v_aload_n C 4 dX5_odds_118 rfl ?_
            refine v_lload C 3 dX5_odds_119 rfl ?_
            refine v_lload C 2 dX5_odds_121 rfl ?_
            refine v_cV_i C (As := [.long (lI ((od (g 6) q x n.toNat))), .long (lI ((pr 12 n.toNat)))]) (rest := []) (c_X5_tellsParts l D yc t1 t2 a A g ((od (g 6) q x n.toNat)) ((pr 12 n.toNat)) (by omega) (by omega)) (cwV 2 C.hts gX5_odds_X5_tellsParts rfl rfl rfl (by decide +kernel) ⟨by decide, by decide⟩) (fun H hP => va_recv C.hK hP (ci := 5) (q0 := (0 : Int).toNat) rfl (wo_is (by omega) (by omega) ct_mod)) rfl rfl (Nat.le_of_ble_eq_true rfl) dX5_odds_123 ?_
            intro r9 g9 h9
            rw [h9.1, h9.2]
            clear h9 g9 r9
            try dsimp only
            exact v_ret_i C rfl dX5_odds_126 ⟨(by repeat (first | rfl | rw [if_pos (by omega)] | rw [if_neg (by omega)])), (by repeat (first | rfl | rw [if_pos (by omega)] | rw [if_neg (by omega)]))⟩
          · skip
            refine v_lload C 3 dX5_odds_59 rfl ?_
            refine v_ldc2 (z := 12) C wk206 dX5_odds_61 (by decide) ?_
            refine v_lmul C dX5_odds_64 ?_
            refine v_cut1 91 (fun (v91 : Int) => v91 = if fOn (g 6) (g 6 3 + t) = q then pr (12 - x) t.toNat * x else 0) (fun (v91 : Int) => [(10, .int (iI (t))), (8, .long (lI (pr (12 - x) t.toNat))), (6, .long (lI (pr 12 t.toNat))), (4, .long (lI (od (g 6) q x t.toNat))), (0, .ref (a (0))), (1, .int (iI (q))), (2, .int (iI (n))), (3, .int (iI (x)))]) (fun (v91 : Int) => [.long (lI (v91)), .long (lI ((od (g 6) q x t.toNat) * 12))]) (fun (v91 : Int) => g) ?_ ?_
            · intro v91 hj91
              try dsimp only
              refine v_ladd C dX5_odds_91 ?_
              refine v_st (st' := [.long (lI (od (g 6) q x (t + 1).toNat))]) (by rw [hj91, od_s (by omega)]) ?_
              refine v_lstore (lv' := [(4, .long (lI (od (g 6) q x (t + 1).toNat))), (10, .int (iI (t))), (8, .long (lI (pr (12 - x) t.toNat))), (6, .long (lI (pr 12 t.toNat))), (0, .ref (a (0))), (1, .int (iI (q))), (2, .int (iI (n))), (3, .int (iI (x)))]) C dX5_odds_92 (by decide) rfl ?_
              refine v_lload C 2 dX5_odds_94 rfl ?_
              refine v_bipush C dX5_odds_96 (by decide) ?_
              refine v_iload_n C 7 dX5_odds_98 rfl ?_
              refine v_isub C dX5_odds_99 ?_
              refine v_i2l C dX5_odds_100 (by omega) ?_
              refine v_lmul C dX5_odds_101 ?_
              refine v_st (st' := [.long (lI (pr (12 - x) (t + 1).toNat))]) (by rw [pr_s (by omega)]) ?_
              refine v_lstore (lv' := [(8, .long (lI (pr (12 - x) (t + 1).toNat))), (4, .long (lI (od (g 6) q x (t + 1).toNat))), (10, .int (iI (t))), (6, .long (lI (pr 12 t.toNat))), (0, .ref (a (0))), (1, .int (iI (q))), (2, .int (iI (n))), (3, .int (iI (x)))]) C dX5_odds_102 (by decide) rfl ?_
              refine v_lload C 3 dX5_odds_104 rfl ?_
              refine v_ldc2 (z := 12) C wk206 dX5_odds_106 (by decide) ?_
              refine v_lmul C dX5_odds_109 ?_
              refine v_st (st' := [.long (lI (pr 12 (t + 1).toNat))]) (by rw [pr_s (by omega)]) ?_
              refine v_lstore (lv' := [(6, .long (lI (pr 12 (t + 1).toNat))), (8, .long (lI (pr (12 - x) (t + 1).toNat))), (4, .long (lI (od (g 6) q x (t + 1).toNat))), (10, .int (iI (t))), (0, .ref (a (0))), (1, .int (iI (q))), (2, .int (iI (n))), (3, .int (iI (x)))]) C dX5_odds_110 (by decide) rfl ?_
              refine v_iinc (z' := t + 1) (lv' := [(10, .int (iI (t + 1))), (6, .long (lI (pr 12 (t + 1).toNat))), (8, .long (lI (pr (12 - x) (t + 1).toNat))), (4, .long (lI (od (g 6) q x (t + 1).toNat))), (0, .ref (a (0))), (1, .int (iI (q))), (2, .int (iI (n))), (3, .int (iI (x)))]) C 3 dX5_odds_112 rfl (by omega) (by decide) rfl ?_
              refine v_goto (tgt := 53) C dX5_odds_115 (by decide) ?_
              refine v_sub (lv' := [(10, .int (iI (t + 1))), (8, .long (lI (pr (12 - x) (t + 1).toNat))), (6, .long (lI (pr 12 (t + 1).toNat))), (4, .long (lI (od (g 6) q x (t + 1).toNat))), (0, .ref (a (0))), (1, .int (iI (q))), (2, .int (iI (n))), (3, .int (iI (x)))]) [0, 2, 1, 3, 4, 5, 6, 7] rfl ?_
              exact ih53 (t + 1) (by omega) (by omega)
            · intro jn91
              try dsimp only at jn91
              refine v_aload_n C 4 dX5_odds_65 rfl ?_
              refine v_aload_n C 4 dX5_odds_66 rfl ?_
              refine v_getf C (by omega) (by omega) ct_mod rfl 5 (by decide) wf25 hinX5 rfl dX5_odds_67 ?_
              refine v_iconst C dX5_odds_70 ?_
              refine v_iaload C (by omega) (by omega) ct_mnow (by omega) (by omega) (by decide) dX5_odds_71 ?_
              refine v_iload C 0 dX5_odds_72 rfl ?_
              refine v_iadd C dX5_odds_74 ?_
              refine v_cV_i C (As := [.int (iI ((g (6) (3)) + t))]) (rest := [.long (lI ((od (g 6) q x t.toNat) * 12))]) (c_X5_farmOn l D yc t1 t2 a A g ((g (6) (3)) + t) HI (by omega) (by omega)) (cwV 1 C.hts gX5_odds_X5_farmOn rfl rfl rfl (by decide +kernel) ⟨by decide, by decide⟩) (fun H hP => va_recv C.hK hP (ci := 5) (q0 := (0 : Int).toNat) rfl (wo_is (by omega) (by omega) ct_mod)) rfl rfl (Nat.le_of_ble_eq_true rfl) dX5_odds_75 ?_
              intro r9 g9 h9
              rw [h9.1, h9.2]
              clear h9 g9 r9
              try dsimp only
              have h01 := fOn01 HI (by omega) (g 6 3 + t)
              refine v_iload_n C 5 dX5_odds_78 rfl ?_
              refine v_icmp_ne (tgt := 90) C dX5_odds_79 (by decide) (by omega) (by omega) (fun c79 => ?_) (fun c79 => ?_)
              · skip
                refine v_lconst (z := 0) C dX5_odds_90 (by decide) ?_
                exact jn91 0 (by first | rw [if_pos (by omega)] | rw [if_neg (by omega)])
              · skip
                refine v_lload C 1 dX5_odds_82 rfl ?_
                refine v_iload_n C 7 dX5_odds_84 rfl ?_
                refine v_i2l C dX5_odds_85 (by omega) ?_
                refine v_lmul C dX5_odds_86 ?_
                refine v_goto (tgt := 91) C dX5_odds_87 (by decide) ?_
                exact jn91 ((pr (12 - x) t.toNat) * x) (by first | rw [if_pos (by omega)] | rw [if_neg (by omega)])
        · skip
          refine v_bipush C dX5_odds_38 (by decide) ?_
          exact v_ret_i C rfl dX5_odds_40 ⟨(by repeat (first | rfl | rw [if_pos (by omega)] | rw [if_neg (by omega)])), (by repeat (first | rfl | rw [if_pos (by omega)] | rw [if_neg (by omega)]))⟩
      · skip
        refine v_iconst C dX5_odds_29 ?_
        exact v_ret_i C rfl dX5_odds_30 ⟨(by repeat (first | rfl | rw [if_pos (by omega)] | rw [if_neg (by omega)])), (by repeat (first | rfl | rw [if_pos (by omega)] | rw [if_neg (by omega)]))⟩
