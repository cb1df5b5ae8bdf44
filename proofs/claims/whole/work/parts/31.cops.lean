set_option maxRecDepth 100000 in
set_option maxHeartbeats 4000000 in
theorem c_X4_where (l : Launch) (D : va_G) (yc : Nat → ClassId) (t1 t2 : Nat) (a : Int → Nat) (A : Nat → Prop) (g : Mm) (d : Int) (F : Int → Int) (hd : R32 d) (HF : FR g 0 F) (HI : FI F) : Ci l yX4_where wsX4_where { frames := 2, cells := 0, slots := 0, locals := 42 } D yc t1 t2 A (cw a yc) [.ref (a (0)), .int (iI (d))] g (fun r9 g' => r9 = (iI (if d < 0 ∨ 999 < d then -1 else if F 0 = 0 then -4 else fOn F d)) ∧ g' = g) := by
  refine start_i (cc := cX4_where) (nL := 2) (ret := (some .int)) (own := RX4) (by decide +kernel) rfl rfl (Nat.le_of_ble_eq_true rfl) ?_
  intro p e s m9 below meth c9 C
  have wf21 : Cond.fieldLink RX4 21 (TX4 2).1 (TX4 2).2.1 (TX4 2).2.2.1 ∈ wsX4_where := by decide +kernel
  have hinX4 : ∀ w ∈ u_ws RX4 TX4 10, w ∈ wsX4_where := by decide +kernel
  have hn := HI.n
  refine v_lv (lv' := [(0, .ref (a (0))), (1, .int (iI (d)))]) rfl ?_
  refine v_iload_n C 1 dX4_where_0 rfl ?_
  refine v_cS_i C (As := [.int (iI (d))]) (rest := []) (c_X4_isNoDay l D yc t1 t2 A (cw a yc) g d (by omega)) (va_cwS 1 C.hts gX4_where_X4_isNoDay rfl rfl rfl (by decide +kernel) ⟨by decide, by decide⟩) rfl rfl (Nat.le_of_ble_eq_true rfl) dX4_where_1 ?_
  intro r9 g9 h9
  rw [h9.1, h9.2]
  clear h9 g9 r9
  try dsimp only
  refine v_ifb_eq (tgt := 9) C dX4_where_4 (by decide) (fun c4 => ?_) (fun c4 => ?_)
  · skip
    refine v_aload_n C 0 dX4_where_9 rfl ?_
    refine v_getf C (by omega) (by omega) ct_cow rfl 2 (by decide) wf21 hinX4 rfl dX4_where_10 ?_
    refine v_st (st' := [.ref (a (26 + 0))]) rfl ?_
    refine v_cV_i C (As := []) (rest := []) (c_X1_isMissing l D yc t1 t2 a A g 0 F (by omega) HF HI) (cwV 0 C.hts gX4_where_X1_isMissing rfl rfl rfl (by decide +kernel) ⟨by decide, by decide⟩) (fun H hP => va_recv C.hK hP (ci := 1) (q0 := (26 + 0 : Int).toNat) rfl (wo_is (by omega) (by omega) (ct_farm (by omega) (by omega)))) rfl rfl (Nat.le_of_ble_eq_true rfl) dX4_where_13 ?_
    intro r9 g9 h9
    rw [h9.1, h9.2]
    clear h9 g9 r9
    try dsimp only
    refine v_ifb_eq (tgt := 22) C dX4_where_16 (by decide) (fun c16 => ?_) (fun c16 => ?_)
    · skip
      refine v_aload_n C 0 dX4_where_22 rfl ?_
      refine v_getf C (by omega) (by omega) ct_cow rfl 2 (by decide) wf21 hinX4 rfl dX4_where_23 ?_
      refine v_st (st' := [.ref (a (26 + 0))]) rfl ?_
      refine v_iload_n C 1 dX4_where_26 rfl ?_
      refine v_cV_i C (As := [.int (iI (d))]) (rest := []) (c_X1_farmOn l D yc t1 t2 a A g 0 d F (by omega) HF HI (by omega) (by omega)) (cwV 1 C.hts gX4_where_X1_farmOn rfl rfl rfl (by decide +kernel) ⟨by decide, by decide⟩) (fun H hP => va_recv C.hK hP (ci := 1) (q0 := (26 + 0 : Int).toNat) rfl (wo_is (by omega) (by omega) (ct_farm (by omega) (by omega)))) rfl rfl (Nat.le_of_ble_eq_true rfl) dX4_where_27 ?_
      intro r9 g9 h9
      rw [h9.1, h9.2]
      clear h9 g9 r9
      try dsimp only
      exact v_ret_i C rfl dX4_where_30 ⟨(by repeat (first | rfl | rw [if_pos (by omega)] | rw [if_neg (by omega)])), rfl⟩
    · skip
      refine v_bipush C dX4_where_19 (by decide) ?_
      exact v_ret_i C rfl dX4_where_21 ⟨(by repeat (first | rfl | rw [if_pos (by omega)] | rw [if_neg (by omega)])), rfl⟩
  · skip
    refine v_iconst C dX4_where_7 ?_
    exact v_ret_i C rfl dX4_where_8 ⟨(by repeat (first | rfl | rw [if_pos (by omega)] | rw [if_neg (by omega)])), rfl⟩

set_option maxRecDepth 100000 in
set_option maxHeartbeats 4000000 in
theorem c_X4_milk (l : Launch) (D : va_G) (yc : Nat → ClassId) (t1 t2 : Nat) (a : Int → Nat) (A : Nat → Prop) (g : Mm) (q b d : Int) (F : Int → Int) (hq : R32 q) (hb : R32 b) (hd : R32 d) (HF : FR g 0 F) (HI : FI F) : Ci l yX4_milk wsX4_milk { frames := 2, cells := 0, slots := 0, locals := 46 } D yc t1 t2 A (cw a yc) [.ref (a (0)), .int (iI (q)), .int (iI (b)), .int (iI (d))] g (fun r9 g' => r9 = (iI (if (q < 0 ∨ 1 < q) ∨ (b < 0 ∨ 999 < b) ∨ (d < 0 ∨ 999 < d) ∨ d < b then -1 else if F 0 = 0 then -4 else sI (fun x => mf F q (b + x)) (d + 1 - b))) ∧ g' = g) := by
  refine start_i (cc := cX4_milk) (nL := 4) (ret := (some .int)) (own := RX4) (by decide +kernel) rfl rfl (Nat.le_of_ble_eq_true rfl) ?_
  intro p e s m9 below meth c9 C
  have wf21 : Cond.fieldLink RX4 21 (TX4 2).1 (TX4 2).2.1 (TX4 2).2.2.1 ∈ wsX4_milk := by decide +kernel
  have hinX4 : ∀ w ∈ u_ws RX4 TX4 10, w ∈ wsX4_milk := by decide +kernel
  have hn := HI.n
  refine v_lv (lv' := [(0, .ref (a (0))), (1, .int (iI (q))), (2, .int (iI (b))), (3, .int (iI (d)))]) rfl ?_
  refine v_iload_n C 1 dX4_milk_0 rfl ?_
  refine v_cS_i C (As := [.int (iI (q))]) (rest := []) (c_X4_isNoFarm l D yc t1 t2 A (cw a yc) g q (by omega)) (va_cwS 1 C.hts gX4_milk_X4_isNoFarm rfl rfl rfl (by decide +kernel) ⟨by decide, by decide⟩) rfl rfl (Nat.le_of_ble_eq_true rfl) dX4_milk_1 ?_
  intro r9 g9 h9
  rw [h9.1, h9.2]
  clear h9 g9 r9
  try dsimp only
  refine v_ifb_ne (tgt := 26) C dX4_milk_4 (by decide) (fun c4 => ?_) (fun c4 => ?_)
  · skip
    refine v_iconst C dX4_milk_26 ?_
    exact v_ret_i C rfl dX4_milk_27 ⟨(by repeat (first | rfl | rw [if_pos (by omega)] | rw [if_neg (by omega)])), rfl⟩
  · skip
    refine v_iload_n C 2 dX4_milk_7 rfl ?_
    refine v_cS_i C (As := [.int (iI (b))]) (rest := []) (c_X4_isNoDay l D yc t1 t2 A (cw a yc) g b (by omega)) (va_cwS 1 C.hts gX4_milk_X4_isNoDay rfl rfl rfl (by decide +kernel) ⟨by decide, by decide⟩) rfl rfl (Nat.le_of_ble_eq_true rfl) dX4_milk_8 ?_
    intro r9 g9 h9
    rw [h9.1, h9.2]
    clear h9 g9 r9
    try dsimp only
    refine v_ifb_ne (tgt := 26) C dX4_milk_11 (by decide) (fun c11 => ?_) (fun c11 => ?_)
    · skip
      refine v_iconst C dX4_milk_26 ?_
      exact v_ret_i C rfl dX4_milk_27 ⟨(by repeat (first | rfl | rw [if_pos (by omega)] | rw [if_neg (by omega)])), rfl⟩
    · skip
      refine v_iload_n C 3 dX4_milk_14 rfl ?_
      refine v_cS_i C (As := [.int (iI (d))]) (rest := []) (c_X4_isNoDay l D yc t1 t2 A (cw a yc) g d (by omega)) (va_cwS 1 C.hts gX4_milk_X4_isNoDay rfl rfl rfl (by decide +kernel) ⟨by decide, by decide⟩) rfl rfl (Nat.le_of_ble_eq_true rfl) dX4_milk_15 ?_
      intro r9 g9 h9
      rw [h9.1, h9.2]
      clear h9 g9 r9
      try dsimp only
      refine v_ifb_ne (tgt := 26) C dX4_milk_18 (by decide) (fun c18 => ?_) (fun c18 => ?_)
      · skip
        refine v_iconst C dX4_milk_26 ?_
        exact v_ret_i C rfl dX4_milk_27 ⟨(by repeat (first | rfl | rw [if_pos (by omega)] | rw [if_neg (by omega)])), rfl⟩
      · skip
        refine v_iload_n C 3 dX4_milk_21 rfl ?_
        refine v_iload_n C 2 dX4_milk_22 rfl ?_
        refine v_icmp_ge (tgt := 28) C dX4_milk_23 (by decide) (by omega) (by omega) (fun c23 => ?_) (fun c23 => ?_)
        · skip
          refine v_aload_n C 0 dX4_milk_28 rfl ?_
          refine v_getf C (by omega) (by omega) ct_cow rfl 2 (by decide) wf21 hinX4 rfl dX4_milk_29 ?_
          refine v_st (st' := [.ref (a (26 + 0))]) rfl ?_
          refine v_cV_i C (As := []) (rest := []) (c_X1_isMissing l D yc t1 t2 a A g 0 F (by omega) HF HI) (cwV 0 C.hts gX4_milk_X1_isMissing rfl rfl rfl (by decide +kernel) ⟨by decide, by decide⟩) (fun H hP => va_recv C.hK hP (ci := 1) (q0 := (26 + 0 : Int).toNat) rfl (wo_is (by omega) (by omega) (ct_farm (by omega) (by omega)))) rfl rfl (Nat.le_of_ble_eq_true rfl) dX4_milk_32 ?_
          intro r9 g9 h9
          rw [h9.1, h9.2]
          clear h9 g9 r9
          try dsimp only
          refine v_ifb_eq (tgt := 41) C dX4_milk_35 (by decide) (fun c35 => ?_) (fun c35 => ?_)
          · skip
            refine v_aload_n C 0 dX4_milk_41 rfl ?_
            refine v_getf C (by omega) (by omega) ct_cow rfl 2 (by decide) wf21 hinX4 rfl dX4_milk_42 ?_
            refine v_st (st' := [.ref (a (26 + 0))]) rfl ?_
            refine v_iload_n C 1 dX4_milk_45 rfl ?_
            refine v_iload_n C 2 dX4_milk_46 rfl ?_
            refine v_iload_n C 3 dX4_milk_47 rfl ?_
            refine v_cV_i C (As := [.int (iI (q)), .int (iI (b)), .int (iI (d))]) (rest := []) (c_X1_milkOf l D yc t1 t2 a A g 0 q b d F (by omega) HF HI (by omega) (by omega) (by omega) (by omega)) (cwV 3 C.hts gX4_milk_X1_milkOf rfl rfl rfl (by decide +kernel) ⟨by decide, by decide⟩) (fun H hP => va_recv C.hK hP (ci := 1) (q0 := (26 + 0 : Int).toNat) rfl (wo_is (by omega) (by omega) (ct_farm (by omega) (by omega)))) rfl rfl (Nat.le_of_ble_eq_true rfl) dX4_milk_48 ?_
            intro r9 g9 h9
            rw [h9.1, h9.2]
            clear h9 g9 r9
            try dsimp only
            exact v_ret_i C rfl dX4_milk_51 ⟨(by repeat (first | rfl | rw [if_pos (by omega)] | rw [if_neg (by omega)])), rfl⟩
          · skip
            refine v_bipush C dX4_milk_38 (by decide) ?_
            exact v_ret_i C rfl dX4_milk_40 ⟨(by repeat (first | rfl | rw [if_pos (by omega)] | rw [if_neg (by omega)])), rfl⟩
        · skip
          refine v_iconst C dX4_milk_26 ?_
          exact v_ret_i C rfl dX4_milk_27 ⟨(by repeat (first | rfl | rw [if_pos (by omega)] | rw [if_neg (by omega)])), rfl⟩

set_option maxRecDepth 100000 in
set_option maxHeartbeats 4000000 in
theorem c_X4_walks (l : Launch) (D : va_G) (yc : Nat → ClassId) (t1 t2 : Nat) (a : Int → Nat) (A : Nat → Prop) (g : Mm) (d : Int) (F : Int → Int) (hd : R32 d) (HF : FR g 0 F) (HI : FI F) : Ci l yX4_walks wsX4_walks { frames := 2, cells := 0, slots := 0, locals := 42 } D yc t1 t2 A (cw a yc) [.ref (a (0)), .int (iI (d))] g (fun r9 g' => r9 = (iI (if d < 0 ∨ 999 < d then -1 else if F 0 = 0 then -4 else sI (wk F) d)) ∧ g' = g) := by
  refine start_i (cc := cX4_walks) (nL := 4) (ret := (some .int)) (own := RX4) (by decide +kernel) rfl rfl (Nat.le_of_ble_eq_true rfl) ?_
  intro p e s m9 below meth c9 C
  have wf21 : Cond.fieldLink RX4 21 (TX4 2).1 (TX4 2).2.1 (TX4 2).2.2.1 ∈ wsX4_walks := by decide +kernel
  have hinX4 : ∀ w ∈ u_ws RX4 TX4 10, w ∈ wsX4_walks := by decide +kernel
  have hn := HI.n
  refine v_lv (lv' := [(0, .ref (a (0))), (1, .int (iI (d)))]) rfl ?_
  refine v_iload_n C 1 dX4_walks_0 rfl ?_
  refine v_cS_i C (As := [.int (iI (d))]) (rest := []) (c_X4_isNoDay l D yc t1 t2 A (cw a yc) g d (by omega)) (va_cwS 1 C.hts gX4_walks_X4_isNoDay rfl rfl rfl (by decide +kernel) ⟨by decide, by decide⟩) rfl rfl (Nat.le_of_ble_eq_true rfl) dX4_walks_1 ?_
  intro r9 g9 h9
  rw [h9.1, h9.2]
  clear h9 g9 r9
  try dsimp only
  refine v_ifb_eq (tgt := 9) C dX4_walks_4 (by decide) (fun c4 => ?_) (fun c4 => ?_)
  · skip
    refine v_aload_n C 0 dX4_walks_9 rfl ?_
    refine v_getf C (by omega) (by omega) ct_cow rfl 2 (by decide) wf21 hinX4 rfl dX4_walks_10 ?_
    refine v_st (st' := [.ref (a (26 + 0))]) rfl ?_
    refine v_cV_i C (As := []) (rest := []) (c_X1_isMissing l D yc t1 t2 a A g 0 F (by omega) HF HI) (cwV 0 C.hts gX4_walks_X1_isMissing rfl rfl rfl (by decide +kernel) ⟨by decide, by decide⟩) (fun H hP => va_recv C.hK hP (ci := 1) (q0 := (26 + 0 : Int).toNat) rfl (wo_is (by omega) (by omega) (ct_farm (by omega) (by omega)))) rfl rfl (Nat.le_of_ble_eq_true rfl) dX4_walks_13 ?_
    intro r9 g9 h9
    rw [h9.1, h9.2]
    clear h9 g9 r9
    try dsimp only
    refine v_ifb_eq (tgt := 22) C dX4_walks_16 (by decide) (fun c16 => ?_) (fun c16 => ?_)
    · skip
      refine v_iconst C dX4_walks_22 ?_
      refine v_istore_n (lv' := [(2, .int (iI (0))), (0, .ref (a (0))), (1, .int (iI (d)))]) C dX4_walks_23 (by decide) rfl ?_
      refine v_iconst C dX4_walks_24 ?_
      refine v_istore_n (lv' := [(3, .int (iI (1))), (2, .int (iI (0))), (0, .ref (a (0))), (1, .int (iI (d)))]) C dX4_walks_25 (by decide) rfl ?_
      refine v_lv (congrArg (fun x9 => ([(3, .int (iI x9)), (2, .int (iI (0))), (0, .ref (a (0))), (1, .int (iI (d)))] : List (Nat × Value))) (show (1) = (((0 : Int)) + 1) by first | rfl | omega | (simp; done))) ?_
      refine v_lv (congrArg (fun x9 => ([(3, .int (iI (((0 : Int)) + 1))), (2, .int (iI x9)), (0, .ref (a (0))), (1, .int (iI (d)))] : List (Nat × Value))) (show (0) = (sI (wk F) ((0 : Int))) by first | rfl | omega | (simp; done))) ?_
      refine v_loop1 (fun (t : Int) => (d - t).toNat) (fun (t : Int) => 0 ≤ t ∧ t ≤ d) (fun (t : Int) => [(3, .int (iI (t + 1))), (2, .int (iI (sI (wk F) t))), (0, .ref (a (0))), (1, .int (iI (d)))]) (fun (t : Int) => g) ?_ 0 (by omega)
      intro t hI26 ih26
      try dsimp only at ih26 ⊢
      refine v_iload_n C 0 dX4_walks_26 rfl ?_
      refine v_iload_n C 3 dX4_walks_27 rfl ?_
      refine v_icmp_gt (tgt := 61) C dX4_walks_28 (by decide) (by omega) (by omega) (fun c28 => ?_) (fun c28 => ?_)
      · skip
        refine v_iload_n C 1 dX4_walks_61 rfl ?_
        exact v_ret_i C rfl dX4_walks_62 ⟨(by rw [show t = d by omega]; repeat (first | rfl | rw [if_pos (by omega)] | rw [if_neg (by omega)])), rfl⟩
      · skip
        refine v_aload_n C 2 dX4_walks_31 rfl ?_
        refine v_getf C (by omega) (by omega) ct_cow rfl 2 (by decide) wf21 hinX4 rfl dX4_walks_32 ?_
        refine v_st (st' := [.ref (a (26 + 0))]) rfl ?_
        refine v_iload_n C 0 dX4_walks_35 rfl ?_
        refine v_cV_i C (As := [.int (iI (t + 1))]) (rest := []) (c_X1_farmOn l D yc t1 t2 a A g 0 (t + 1) F (by omega) HF HI (by omega) (by omega)) (cwV 1 C.hts gX4_walks_X1_farmOn rfl rfl rfl (by decide +kernel) ⟨by decide, by decide⟩) (fun H hP => va_recv C.hK hP (ci := 1) (q0 := (26 + 0 : Int).toNat) rfl (wo_is (by omega) (by omega) (ct_farm (by omega) (by omega)))) rfl rfl (Nat.le_of_ble_eq_true rfl) dX4_walks_36 ?_
        intro r9 g9 h9
        rw [h9.1, h9.2]
        clear h9 g9 r9
        try dsimp only
        refine v_aload_n C 2 dX4_walks_39 rfl ?_
        refine v_getf C (by omega) (by omega) ct_cow rfl 2 (by decide) wf21 hinX4 rfl dX4_walks_40 ?_
        refine v_st (st' := [.ref (a (26 + 0)), .int (iI (fOn F (t + 1)))]) rfl ?_
        refine v_iload_n C 0 dX4_walks_43 rfl ?_
        refine v_iconst C dX4_walks_44 ?_
        refine v_isub C dX4_walks_45 ?_
        refine v_st (st' := [.int (iI (t)), .ref (a (26 + 0)), .int (iI (fOn F (t + 1)))]) (by rw [show t + 1 - 1 = t by omega]) ?_
        refine v_cV_i C (As := [.int (iI (t))]) (rest := [.int (iI (fOn F (t + 1)))]) (c_X1_farmOn l D yc t1 t2 a A g 0 t F (by omega) HF HI (by omega) (by omega)) (cwV 1 C.hts gX4_walks_X1_farmOn rfl rfl rfl (by decide +kernel) ⟨by decide, by decide⟩) (fun H hP => va_recv C.hK hP (ci := 1) (q0 := (26 + 0 : Int).toNat) rfl (wo_is (by omega) (by omega) (ct_farm (by omega) (by omega)))) rfl rfl (Nat.le_of_ble_eq_true rfl) dX4_walks_46 ?_
        intro r9 g9 h9
        rw [h9.1, h9.2]
        clear h9 g9 r9
        try dsimp only
        have h01 := fOn01 HI (by omega) t
        have h02 := fOn01 HI (by omega) (t + 1)
        refine v_icmp_eq (tgt := 55) C dX4_walks_49 (by decide) (by omega) (by omega) (fun c49 => ?_) (fun c49 => ?_)
        · skip
          refine v_iinc (z' := t + 1 + 1) (lv' := [(3, .int (iI (t + 1 + 1))), (2, .int (iI (sI (wk F) t))), (0, .ref (a (0))), (1, .int (iI (d)))]) C 0 dX4_walks_55 rfl (by omega) (by decide) rfl ?_
          refine v_goto (tgt := 26) C dX4_walks_58 (by decide) ?_
          refine v_lv (congrArg (fun x9 => ([(3, .int (iI x9)), (2, .int (iI (sI (wk F) t))), (0, .ref (a (0))), (1, .int (iI (d)))] : List (Nat × Value))) (show (t + 1 + 1) = ((t + 1) + 1) by first | rfl | (omega))) ?_
          refine v_lv (congrArg (fun x9 => ([(3, .int (iI ((t + 1) + 1))), (2, .int (iI x9)), (0, .ref (a (0))), (1, .int (iI (d)))] : List (Nat × Value))) (show (sI (wk F) t) = (sI (wk F) (t + 1)) by first | rfl | (rw [sI_s _ (by omega)]; unfold wk; simp [*]))) ?_
          exact ih26 (t + 1) (by omega) (by omega)
        · skip
          refine v_iinc (z' := sI (wk F) t + 1) (lv' := [(2, .int (iI (sI (wk F) t + 1))), (3, .int (iI (t + 1))), (0, .ref (a (0))), (1, .int (iI (d)))]) C 1 dX4_walks_52 rfl (by omega) (by decide) rfl ?_
          refine v_iinc (z' := t + 1 + 1) (lv' := [(3, .int (iI (t + 1 + 1))), (2, .int (iI (sI (wk F) t + 1))), (0, .ref (a (0))), (1, .int (iI (d)))]) C 1 dX4_walks_55 rfl (by omega) (by decide) rfl ?_
          refine v_goto (tgt := 26) C dX4_walks_58 (by decide) ?_
          refine v_lv (congrArg (fun x9 => ([(3, .int (iI x9)), (2, .int (iI (sI (wk F) t + 1))), (0, .ref (a (0))), (1, .int (iI (d)))] : List (Nat × Value))) (show (t + 1 + 1) = ((t + 1) + 1) by first | rfl | (omega))) ?_
          refine v_lv (congrArg (fun x9 => ([(3, .int (iI ((t + 1) + 1))), (2, .int (iI x9)), (0, .ref (a (0))), (1, .int (iI (d)))] : List (Nat × Value))) (show (sI (wk F) t + 1) = (sI (wk F) (t + 1)) by first | rfl | (rw [sI_s _ (by omega)]; unfold wk; simp [*]))) ?_
          exact ih26 (t + 1) (by omega) (by omega)
    · skip
      refine v_bipush C dX4_walks_19 (by decide) ?_
      exact v_ret_i C rfl dX4_walks_21 ⟨(by repeat (first | rfl | rw [if_pos (by omega)] | rw [if_neg (by omega)])), rfl⟩
  · skip
    refine v_iconst C dX4_walks_7 ?_
    exact v_ret_i C rfl dX4_walks_8 ⟨(by repeat (first | rfl | rw [if_pos (by omega)] | rw [if_neg (by omega)])), rfl⟩

set_option maxRecDepth 100000 in
set_option maxHeartbeats 4000000 in
theorem c_X4_out (l : Launch) (D : va_G) (yc : Nat → ClassId) (t1 t2 : Nat) (a : Int → Nat) (A : Nat → Prop) (g : Mm) (v : Int) (F : Int → Int) (hv : R32 v) (HF : FR g 0 F) (HI : FI F) : Ci l yX4_out wsX4_out { frames := 2, cells := 0, slots := 0, locals := 42 } D yc t1 t2 A (cw a yc) [.ref (a (0)), .int (iI (v))] g (fun r9 g' => r9 = (iI (if v < 0 ∨ 99 < v then -1 else if F 0 = 0 then -4 else if (ff (outP F v) 1000 0) = -1 then -9 else (ff (outP F v) 1000 0))) ∧ g' = (if v < 0 ∨ 99 < v then g else if F 0 = 0 then g else if (ff (outP F v) 1000 0) = -1 then g else mu g 0 7 (if 0 < sI (ld F) ((ff (outP F v) 1000 0) + 1) then 0 else 1))) := by
  refine start_i (cc := cX4_out) (nL := 4) (ret := (some .int)) (own := RX4) (by decide +kernel) rfl rfl (Nat.le_of_ble_eq_true rfl) ?_
  intro p e s m9 below meth c9 C
  have wf21 : Cond.fieldLink RX4 21 (TX4 2).1 (TX4 2).2.1 (TX4 2).2.2.1 ∈ wsX4_out := by decide +kernel
  have hinX4 : ∀ w ∈ u_ws RX4 TX4 10, w ∈ wsX4_out := by decide +kernel
  have wm190 : Cond.methodLink RX4 190 Lib.Math.abs.name ∈ wsX4_out := by decide +kernel
  have wnabs : Cond.static Lib.Math.abs.name ∈ wsX4_out := by decide +kernel
  have wmi : Cond.initialized "java/lang/Math" ∈ wsX4_out := by decide +kernel
  have woabs : Cond.code Lib.Math.abs.name Lib.Math.abs.code 1 (some .int) ∈ wsX4_out := by decide +kernel
  have wf74 : Cond.fieldLink RX4 74 (TX4 7).1 (TX4 7).2.1 (TX4 7).2.2.1 ∈ wsX4_out := by decide +kernel
  have hn := HI.n
  refine v_lv (lv' := [(0, .ref (a (0))), (1, .int (iI (v)))]) rfl ?_
  refine v_iload_n C 1 dX4_out_0 rfl ?_
  refine v_iconst C dX4_out_1 ?_
  refine v_bipush C dX4_out_2 (by decide) ?_
  refine v_cS_i C (As := [.int (iI (v)), .int (iI (0)), .int (iI (99))]) (rest := []) (c_X4_outside l D yc t1 t2 A (cw a yc) g v 0 99 (by omega) (by omega) (by omega)) (va_cwS 3 C.hts gX4_out_X4_outside rfl rfl rfl (by decide +kernel) ⟨by decide, by decide⟩) rfl rfl (Nat.le_of_ble_eq_true rfl) dX4_out_4 ?_
  intro r9 g9 h9
  rw [h9.1, h9.2]
  clear h9 g9 r9
  try dsimp only
  refine v_ifb_eq (tgt := 12) C dX4_out_7 (by decide) (fun c7 => ?_) (fun c7 => ?_)
  · skip
    refine v_aload_n C 0 dX4_out_12 rfl ?_
    refine v_getf C (by omega) (by omega) ct_cow rfl 2 (by decide) wf21 hinX4 rfl dX4_out_13 ?_
    refine v_st (st' := [.ref (a (26 + 0))]) rfl ?_
    refine v_cV_i C (As := []) (rest := []) (c_X1_isMissing l D yc t1 t2 a A g 0 F (by omega) HF HI) (cwV 0 C.hts gX4_out_X1_isMissing rfl rfl rfl (by decide +kernel) ⟨by decide, by decide⟩) (fun H hP => va_recv C.hK hP (ci := 1) (q0 := (26 + 0 : Int).toNat) rfl (wo_is (by omega) (by omega) (ct_farm (by omega) (by omega)))) rfl rfl (Nat.le_of_ble_eq_true rfl) dX4_out_16 ?_
    intro r9 g9 h9
    rw [h9.1, h9.2]
    clear h9 g9 r9
    try dsimp only
    refine v_ifb_eq (tgt := 25) C dX4_out_19 (by decide) (fun c19 => ?_) (fun c19 => ?_)
    · skip
      refine v_iconst C dX4_out_25 ?_
      refine v_istore_n (lv' := [(2, .int (iI (0))), (0, .ref (a (0))), (1, .int (iI (v)))]) C dX4_out_26 (by decide) rfl ?_
      refine v_iconst C dX4_out_27 ?_
      refine v_istore_n (lv' := [(3, .int (iI (0))), (2, .int (iI (0))), (0, .ref (a (0))), (1, .int (iI (v)))]) C dX4_out_28 (by decide) rfl ?_
      refine v_lv (congrArg (fun x9 => ([(3, .int (iI x9)), (2, .int (iI (0))), (0, .ref (a (0))), (1, .int (iI (v)))] : List (Nat × Value))) (show (0) = (((0 : Int))) by first | rfl | omega | (simp; done))) ?_
      refine v_lv (congrArg (fun x9 => ([(3, .int (iI (((0 : Int))))), (2, .int (iI x9)), (0, .ref (a (0))), (1, .int (iI (v)))] : List (Nat × Value))) (show (0) = (sI (ld F) ((0 : Int))) by first | rfl | omega | (simp; done))) ?_
      refine v_loop1 (fun (t : Int) => (1000 - t).toNat) (fun (t : Int) => 0 ≤ t ∧ t ≤ 1000 ∧ ff (outP F v) (1000 - t).toNat t = (ff (outP F v) 1000 0)) (fun (t : Int) => [(3, .int (iI (t))), (2, .int (iI (sI (ld F) t))), (0, .ref (a (0))), (1, .int (iI (v)))]) (fun (t : Int) => g) ?_ 0 ⟨by omega, by omega, rfl⟩
      intro t hI29 ih29
      try dsimp only at ih29 ⊢
      refine v_iload_n C 0 dX4_out_29 rfl ?_
      refine v_sipush C dX4_out_30 (by decide) ?_
      refine v_icmp_gt (tgt := 76) C dX4_out_33 (by decide) (by omega) (by omega) (fun c33 => ?_) (fun c33 => ?_)
      · skip
        refine v_bipush C dX4_out_76 (by decide) ?_
        exact v_ret_i C rfl dX4_out_78 ⟨(by rw [if_neg (by omega), if_neg (by omega), ← hI29.2.2, ff_e (by omega), if_pos rfl]), (by rw [if_neg (by omega), if_neg (by omega), ← hI29.2.2, ff_e (by omega), if_pos rfl])⟩
      · skip
        have hx9 := hI29.2.2
        have h01 := fOn01 HI (by omega) t
        refine v_iload_n C 1 dX4_out_36 rfl ?_
        refine v_aload_n C 2 dX4_out_37 rfl ?_
        refine v_getf C (by omega) (by omega) ct_cow rfl 2 (by decide) wf21 hinX4 rfl dX4_out_38 ?_
        refine v_st (st' := [.ref (a (26 + 0)), .int (iI (sI (ld F) t))]) rfl ?_
        refine v_iload_n C 0 dX4_out_41 rfl ?_
        refine v_cV_i C (As := [.int (iI (t))]) (rest := [.int (iI (sI (ld F) t))]) (c_X1_leadOn l D yc t1 t2 a A g 0 t F (by omega) HF HI (by omega) (by omega)) (cwV 1 C.hts gX4_out_X1_leadOn rfl rfl rfl (by decide +kernel) ⟨by decide, by decide⟩) (fun H hP => va_recv C.hK hP (ci := 1) (q0 := (26 + 0 : Int).toNat) rfl (wo_is (by omega) (by omega) (ct_farm (by omega) (by omega)))) rfl rfl (Nat.le_of_ble_eq_true rfl) dX4_out_42 ?_
        intro r9 g9 h9
        rw [h9.1, h9.2]
        clear h9 g9 r9
        try dsimp only
        refine v_iadd C dX4_out_45 ?_
        refine v_st (st' := [.int (iI (sI (ld F) (t + 1)))]) (by rw [sI_s _ (by omega)]; rfl) ?_
        refine v_istore_n (lv' := [(2, .int (iI (sI (ld F) (t + 1)))), (3, .int (iI (t))), (0, .ref (a (0))), (1, .int (iI (v)))]) C dX4_out_46 (by decide) rfl ?_
        have hsb := sI_bd (h := ld F) (B := 9) (n := t + 1) (fun e _ _ => ld9 HI (by omega) e) (by omega)
        refine v_iload_n C 0 dX4_out_47 rfl ?_
        refine v_mabs C wm190 wnabs wmi woabs (by decide) (Nat.le_of_ble_eq_true rfl) (by omega) dX4_out_48 ?_
        refine v_iload_n C 3 dX4_out_51 rfl ?_
        refine v_icmp_le (tgt := 70) C dX4_out_52 (by decide) (by omega) (by omega) (fun c52 => ?_) (fun c52 => ?_)
        · skip
          refine v_iinc (z' := t + 1) (lv' := [(3, .int (iI (t + 1))), (2, .int (iI (sI (ld F) (t + 1)))), (0, .ref (a (0))), (1, .int (iI (v)))]) C 1 dX4_out_70 rfl (by omega) (by decide) rfl ?_
          refine v_goto (tgt := 29) C dX4_out_73 (by decide) ?_
          exact ih29 (t + 1) ⟨by omega, by omega, by rw [← hI29.2.2]; exact (ff_n (by omega) (by unfold outP; simp; omega)).symm⟩ (by omega)
        · skip
          refine v_aload_n C 2 dX4_out_55 rfl ?_
          refine v_iload_n C 0 dX4_out_56 rfl ?_
          refine v_cut1 65 (fun (v65 : Int) => v65 = if 0 < sI (ld F) (t + 1) then 0 else 1) (fun (v65 : Int) => [(2, .int (iI (sI (ld F) (t + 1)))), (3, .int (iI (t))), (0, .ref (a (0))), (1, .int (iI (v)))]) (fun (v65 : Int) => [.int (iI (v65)), .ref (a (0))]) (fun (v65 : Int) => g) ?_ ?_
          · intro v65 hj65
            try dsimp only
            refine v_puti C (cta_L a yc) (by omega) (by omega) ct_cow rfl 7 (by decide) wf74 hinX4 tyX4 tyX4_ok nmX4 rfl (by decide +kernel) (by simp) cs_cow_7 dX4_out_65 ?_
            refine v_g (g' := (mu g (0) (7) (v65))) rfl ?_
            refine v_iload_n C 1 dX4_out_68 rfl ?_
            exact v_ret_i C rfl dX4_out_69 ⟨(by rw [if_neg (by omega), if_neg (by omega), ← hx9, ff_y (by omega) (by unfold outP; simp; omega), if_neg (by omega)]), (by rw [if_neg (by omega), if_neg (by omega), ← hx9, ff_y (by omega) (by unfold outP; simp; omega), if_neg (by omega), hj65])⟩
          · intro jn65
            try dsimp only at jn65
            refine v_if_le (tgt := 64) C dX4_out_57 (by decide) (by omega) (fun c57 => ?_) (fun c57 => ?_)
            · skip
              refine v_iconst C dX4_out_64 ?_
              exact jn65 1 (by first | (exfalso; omega) | rw [if_pos (by omega)] | rw [if_neg (by omega)])
            · skip
              refine v_iconst C dX4_out_60 ?_
              refine v_goto (tgt := 65) C dX4_out_61 (by decide) ?_
              exact jn65 0 (by first | (exfalso; omega) | rw [if_pos (by omega)] | rw [if_neg (by omega)])
    · skip
      refine v_bipush C dX4_out_22 (by decide) ?_
      exact v_ret_i C rfl dX4_out_24 ⟨(by repeat (first | rfl | rw [if_pos (by omega)] | rw [if_neg (by omega)])), (by repeat (first | rfl | rw [if_pos (by omega)] | rw [if_neg (by omega)]))⟩
  · skip
    refine v_iconst C dX4_out_10 ?_
    exact v_ret_i C rfl dX4_out_11 ⟨(by repeat (first | rfl | rw [if_pos (by omega)] | rw [if_neg (by omega)])), (by repeat (first | rfl | rw [if_pos (by omega)] | rw [if_neg (by omega)]))⟩

set_option maxRecDepth 100000 in
set_option maxHeartbeats 4000000 in
theorem c_X4_asked (l : Launch) (D : va_G) (yc : Nat → ClassId) (t1 t2 : Nat) (a : Int → Nat) (A : Nat → Prop) (g : Mm)   : Ci l yX4_asked wsX4_asked { frames := 0, cells := 0, slots := 0, locals := 0 } D yc t1 t2 A (cw a yc) [.ref (a (0))] g (fun r9 g' => r9 = (iI (g 0 7)) ∧ g' = g) := by
  refine start_i (cc := cX4_asked) (nL := 1) (ret := (some .int)) (own := RX4) (by decide +kernel) rfl rfl (Nat.le_of_ble_eq_true rfl) ?_
  intro p e s m9 below meth c9 C
  have wf74 : Cond.fieldLink RX4 74 (TX4 7).1 (TX4 7).2.1 (TX4 7).2.2.1 ∈ wsX4_asked := by decide +kernel
  have hinX4 : ∀ w ∈ u_ws RX4 TX4 10, w ∈ wsX4_asked := by decide +kernel
  refine v_lv (lv' := [(0, .ref (a (0)))]) rfl ?_
  refine v_aload_n C 0 dX4_asked_0 rfl ?_
  refine v_getf C (by omega) (by omega) ct_cow rfl 7 (by decide) wf74 hinX4 rfl dX4_asked_1 ?_
  exact v_ret_i C rfl dX4_asked_4 ⟨rfl, rfl⟩

set_option maxRecDepth 100000 in
set_option maxHeartbeats 4000000 in
theorem c_X4_upper (l : Launch) (D : va_G) (yc : Nat → ClassId) (t1 t2 : Nat) (a : Int → Nat) (A : Nat → Prop) (g : Mm)   : Cl l yX4_upper wsX4_upper { frames := 0, cells := 0, slots := 0, locals := 0 } D yc t1 t2 A (cw a yc) [.ref (a (0))] g (fun r9 g' => r9 = (lI (g 0 8)) ∧ g' = g) := by
  refine start_l (cc := cX4_upper) (nL := 1) (ret := (some .long)) (own := RX4) (by decide +kernel) rfl rfl (Nat.le_of_ble_eq_true rfl) ?_
  intro p e s m9 below meth c9 C
  have wf272 : Cond.fieldLink RX4 272 (TX4 8).1 (TX4 8).2.1 (TX4 8).2.2.1 ∈ wsX4_upper := by decide +kernel
  have hinX4 : ∀ w ∈ u_ws RX4 TX4 10, w ∈ wsX4_upper := by decide +kernel
  refine v_lv (lv' := [(0, .ref (a (0)))]) rfl ?_
  refine v_aload_n C 0 dX4_upper_0 rfl ?_
  refine v_getf C (by omega) (by omega) ct_cow rfl 8 (by decide) wf272 hinX4 rfl dX4_upper_1 ?_
  exact v_ret_l C rfl dX4_upper_4 ⟨rfl, rfl⟩

set_option maxRecDepth 100000 in
set_option maxHeartbeats 4000000 in
theorem c_X4_lower (l : Launch) (D : va_G) (yc : Nat → ClassId) (t1 t2 : Nat) (a : Int → Nat) (A : Nat → Prop) (g : Mm)   : Cl l yX4_lower wsX4_lower { frames := 0, cells := 0, slots := 0, locals := 0 } D yc t1 t2 A (cw a yc) [.ref (a (0))] g (fun r9 g' => r9 = (lI (g 0 9)) ∧ g' = g) := by
  refine start_l (cc := cX4_lower) (nL := 1) (ret := (some .long)) (own := RX4) (by decide +kernel) rfl rfl (Nat.le_of_ble_eq_true rfl) ?_
  intro p e s m9 below meth c9 C
  have wf40 : Cond.fieldLink RX4 40 (TX4 9).1 (TX4 9).2.1 (TX4 9).2.2.1 ∈ wsX4_lower := by decide +kernel
  have hinX4 : ∀ w ∈ u_ws RX4 TX4 10, w ∈ wsX4_lower := by decide +kernel
  refine v_lv (lv' := [(0, .ref (a (0)))]) rfl ?_
  refine v_aload_n C 0 dX4_lower_0 rfl ?_
  refine v_getf C (by omega) (by omega) ct_cow rfl 9 (by decide) wf40 hinX4 rfl dX4_lower_1 ?_
  exact v_ret_l C rfl dX4_lower_4 ⟨rfl, rfl⟩

set_option maxRecDepth 100000 in
set_option maxHeartbeats 4000000 in
theorem c_X4_finding (l : Launch) (D : va_G) (yc : Nat → ClassId) (t1 t2 : Nat) (a : Int → Nat) (A : Nat → Prop) (g : Mm)   : Ci l yX4_finding wsX4_finding { frames := 0, cells := 0, slots := 0, locals := 0 } D yc t1 t2 A (cw a yc) [.ref (a (0))] g (fun r9 g' => r9 = (iI (g 0 6)) ∧ g' = g) := by
  refine start_i (cc := cX4_finding) (nL := 1) (ret := (some .int)) (own := RX4) (by decide +kernel) rfl rfl (Nat.le_of_ble_eq_true rfl) ?_
  intro p e s m9 below meth c9 C
  have wf285 : Cond.fieldLink RX4 285 (TX4 6).1 (TX4 6).2.1 (TX4 6).2.2.1 ∈ wsX4_finding := by decide +kernel
  have hinX4 : ∀ w ∈ u_ws RX4 TX4 10, w ∈ wsX4_finding := by decide +kernel
  refine v_lv (lv' := [(0, .ref (a (0)))]) rfl ?_
  refine v_aload_n C 0 dX4_finding_0 rfl ?_
  refine v_getf C (by omega) (by omega) ct_cow rfl 6 (by decide) wf285 hinX4 rfl dX4_finding_1 ?_
  exact v_ret_i C rfl dX4_finding_4 ⟨rfl, rfl⟩

set_option maxRecDepth 100000 in
set_option maxHeartbeats 4000000 in
theorem c_X4_findings (l : Launch) (D : va_G) (yc : Nat → ClassId) (t1 t2 : Nat) (a : Int → Nat) (A : Nat → Prop) (g : Mm) (k : Int) (hk : R32 k) : Ci l yX4_findings wsX4_findings { frames := 1, cells := 0, slots := 0, locals := 22 } D yc t1 t2 A (cw a yc) [.ref (a (0)), .int (iI (k))] g (fun r9 g' => r9 = (iI (if k < 1 ∨ 5 < k then -1 else g 5 k)) ∧ g' = g) := by
  refine start_i (cc := cX4_findings) (nL := 2) (ret := (some .int)) (own := RX4) (by decide +kernel) rfl rfl (Nat.le_of_ble_eq_true rfl) ?_
  intro p e s m9 below meth c9 C
  have wf36 : Cond.fieldLink RX4 36 (TX4 5).1 (TX4 5).2.1 (TX4 5).2.2.1 ∈ wsX4_findings := by decide +kernel
  have hinX4 : ∀ w ∈ u_ws RX4 TX4 10, w ∈ wsX4_findings := by decide +kernel
  refine v_lv (lv' := [(0, .ref (a (0))), (1, .int (iI (k)))]) rfl ?_
  refine v_iload_n C 1 dX4_findings_0 rfl ?_
  refine v_iconst C dX4_findings_1 ?_
  refine v_iconst C dX4_findings_2 ?_
  refine v_cS_i C (As := [.int (iI (k)), .int (iI (1)), .int (iI (5))]) (rest := []) (c_X4_outside l D yc t1 t2 A (cw a yc) g k 1 5 (by omega) (by omega) (by omega)) (va_cwS 3 C.hts gX4_findings_X4_outside rfl rfl rfl (by decide +kernel) ⟨by decide, by decide⟩) rfl rfl (Nat.le_of_ble_eq_true rfl) dX4_findings_3 ?_
  intro r9 g9 h9
  rw [h9.1, h9.2]
  clear h9 g9 r9
  try dsimp only
  refine v_ifb_eq (tgt := 11) C dX4_findings_6 (by decide) (fun c6 => ?_) (fun c6 => ?_)
  · skip
    refine v_aload_n C 0 dX4_findings_11 rfl ?_
    refine v_getf C (by omega) (by omega) ct_cow rfl 5 (by decide) wf36 hinX4 rfl dX4_findings_12 ?_
    refine v_iload_n C 1 dX4_findings_15 rfl ?_
    refine v_iaload C (by omega) (by omega) ct_fc (by omega) (by omega) (by decide) dX4_findings_16 ?_
    exact v_ret_i C rfl dX4_findings_17 ⟨(by repeat (first | rfl | rw [if_pos (by omega)] | rw [if_neg (by omega)])), rfl⟩
  · skip
    refine v_iconst C dX4_findings_9 ?_
    exact v_ret_i C rfl dX4_findings_10 ⟨(by repeat (first | rfl | rw [if_pos (by omega)] | rw [if_neg (by omega)])), rfl⟩

set_option maxRecDepth 100000 in
set_option maxHeartbeats 4000000 in
theorem c_X4_beast (l : Launch) (D : va_G) (yc : Nat → ClassId) (t1 t2 : Nat) (a : Int → Nat) (A : Nat → Prop) (g : Mm) (i k : Int) (F : Int → Int) (hi : R32 i) (hk : R32 k) (HF : FR g 0 F) (HI : FI F) : Ci l yX4_beast wsX4_beast { frames := 1, cells := 0, slots := 0, locals := 21 } D yc t1 t2 A (cw a yc) [.ref (a (0)), .int (iI (i)), .int (iI (k))] g (fun r9 g' => r9 = (iI (if (i < 0 ∨ F 0 ≤ i) ∨ (k < 0 ∨ 4 < k) then -1 else 1)) ∧ g' = (if (i < 0 ∨ F 0 ≤ i) ∨ (k < 0 ∨ 4 < k) then g else mu g 0 7 (g (56 + 6 * 0 + i) k))) := by
  refine start_i (cc := cX4_beast) (nL := 3) (ret := (some .int)) (own := RX4) (by decide +kernel) rfl rfl (Nat.le_of_ble_eq_true rfl) ?_
  intro p e s m9 below meth c9 C
  have wf21 : Cond.fieldLink RX4 21 (TX4 2).1 (TX4 2).2.1 (TX4 2).2.2.1 ∈ wsX4_beast := by decide +kernel
  have hinX4 : ∀ w ∈ u_ws RX4 TX4 10, w ∈ wsX4_beast := by decide +kernel
  have wf108 : Cond.fieldLink RX4 108 (TX1 7).1 (TX1 7).2.1 (TX1 7).2.2.1 ∈ wsX4_beast := by decide +kernel
  have hinX1 : ∀ w ∈ u_ws RX1 TX1 11, w ∈ wsX4_beast := by decide +kernel
  have wf111 : Cond.fieldLink RX4 111 (TX1 2).1 (TX1 2).2.1 (TX1 2).2.2.1 ∈ wsX4_beast := by decide +kernel
  have wf74 : Cond.fieldLink RX4 74 (TX4 7).1 (TX4 7).2.1 (TX4 7).2.2.1 ∈ wsX4_beast := by decide +kernel
  have hn := HI.n
  refine v_lv (lv' := [(0, .ref (a (0))), (1, .int (iI (i))), (2, .int (iI (k)))]) rfl ?_
  refine v_iload_n C 1 dX4_beast_0 rfl ?_
  refine v_aload_n C 0 dX4_beast_1 rfl ?_
  refine v_getf C (by omega) (by omega) ct_cow rfl 2 (by decide) wf21 hinX4 rfl dX4_beast_2 ?_
  refine v_st (st' := [.ref (a (26 + 0)), .int (iI (i))]) rfl ?_
  refine v_getf C (by omega) (by omega) (ct_farm (by omega) (by omega)) rfl 7 (by decide) wf108 hinX1 rfl dX4_beast_5 ?_
  refine v_st (st' := [.int (iI (F 0)), .int (iI (i))]) (by rw [HF.bc]) ?_
  refine v_cS_i C (As := [.int (iI (i)), .int (iI (F 0))]) (rest := []) (c_X4_isNone l D yc t1 t2 A (cw a yc) g i (F 0) (by omega) (by omega)) (va_cwS 2 C.hts gX4_beast_X4_isNone rfl rfl rfl (by decide +kernel) ⟨by decide, by decide⟩) rfl rfl (Nat.le_of_ble_eq_true rfl) dX4_beast_8 ?_
  intro r9 g9 h9
  rw [h9.1, h9.2]
  clear h9 g9 r9
  try dsimp only
  refine v_ifb_ne (tgt := 22) C dX4_beast_11 (by decide) (fun c11 => ?_) (fun c11 => ?_)
  · skip
    refine v_iconst C dX4_beast_22 ?_
    exact v_ret_i C rfl dX4_beast_23 ⟨(by repeat (first | rfl | rw [if_pos (by omega)] | rw [if_neg (by omega)])), (by first | rw [if_pos (show (i < 0 ∨ F 0 ≤ i) ∨ (k < 0 ∨ 4 < k) by omega)] | rw [if_neg (show ¬ ((i < 0 ∨ F 0 ≤ i) ∨ (k < 0 ∨ 4 < k)) by omega)])⟩
  · skip
    refine v_iload_n C 2 dX4_beast_14 rfl ?_
    refine v_iconst C dX4_beast_15 ?_
    refine v_cS_i C (As := [.int (iI (k)), .int (iI (5))]) (rest := []) (c_X4_isNone l D yc t1 t2 A (cw a yc) g k 5 (by omega) (by omega)) (va_cwS 2 C.hts gX4_beast_X4_isNone rfl rfl rfl (by decide +kernel) ⟨by decide, by decide⟩) rfl rfl (Nat.le_of_ble_eq_true rfl) dX4_beast_16 ?_
    intro r9 g9 h9
    rw [h9.1, h9.2]
    clear h9 g9 r9
    try dsimp only
    refine v_ifb_eq (tgt := 24) C dX4_beast_19 (by decide) (fun c19 => ?_) (fun c19 => ?_)
    · skip
      refine v_aload_n C 0 dX4_beast_24 rfl ?_
      refine v_aload_n C 0 dX4_beast_25 rfl ?_
      refine v_getf C (by omega) (by omega) ct_cow rfl 2 (by decide) wf21 hinX4 rfl dX4_beast_26 ?_
      refine v_st (st' := [.ref (a (26 + 0)), .ref (a (0))]) rfl ?_
      refine v_getf C (by omega) (by omega) (ct_farm (by omega) (by omega)) rfl 2 (by decide) wf111 hinX1 rfl dX4_beast_29 ?_
      refine v_st (st' := [.ref (a (41 + 0)), .ref (a (0))]) rfl ?_
      refine v_iload_n C 1 dX4_beast_32 rfl ?_
      refine v_aaload (f := fun j => 56 + 6 * 0 + j) C (by omega) (by omega) 2 rfl (ct_beastsA (by omega) (by omega)) (by omega) (by omega) (by decide) dX4_beast_33 ?_
      refine v_iload_n C 2 dX4_beast_34 rfl ?_
      refine v_cV_i C (As := [.int (iI (k))]) (rest := [.ref (a (0))]) (c_X0_tell l D yc t1 t2 a A g 0 i k (by omega) (by omega) (by omega)) (cwV 1 C.hts gX4_beast_X0_tell rfl rfl rfl (by decide +kernel) ⟨by decide, by decide⟩) (fun H hP => va_recv C.hK hP (ci := 0) (q0 := (56 + 6 * 0 + i : Int).toNat) rfl (wo_is (by omega) (by omega) (ct_beast (by omega) (by omega) (by omega) (by omega)))) rfl rfl (Nat.le_of_ble_eq_true rfl) dX4_beast_35 ?_
      intro r9 g9 h9
      rw [h9.1, h9.2]
      clear h9 g9 r9
      try dsimp only
      refine v_puti C (cta_L a yc) (by omega) (by omega) ct_cow rfl 7 (by decide) wf74 hinX4 tyX4 tyX4_ok nmX4 rfl (by decide +kernel) (by simp) cs_cow_7 dX4_beast_38 ?_
      refine v_g (g' := (mu g (0) (7) (g (56 + 6 * 0 + i) k))) rfl ?_
      refine v_iconst C dX4_beast_41 ?_
      exact v_ret_i C rfl dX4_beast_42 ⟨(by repeat (first | rfl | rw [if_pos (by omega)] | rw [if_neg (by omega)])), (by first | rw [if_pos (show (i < 0 ∨ F 0 ≤ i) ∨ (k < 0 ∨ 4 < k) by omega)] | rw [if_neg (show ¬ ((i < 0 ∨ F 0 ≤ i) ∨ (k < 0 ∨ 4 < k)) by omega)])⟩
    · skip
      refine v_iconst C dX4_beast_22 ?_
      exact v_ret_i C rfl dX4_beast_23 ⟨(by repeat (first | rfl | rw [if_pos (by omega)] | rw [if_neg (by omega)])), (by first | rw [if_pos (show (i < 0 ∨ F 0 ≤ i) ∨ (k < 0 ∨ 4 < k) by omega)] | rw [if_neg (show ¬ ((i < 0 ∨ F 0 ≤ i) ∨ (k < 0 ∨ 4 < k)) by omega)])⟩

set_option maxRecDepth 100000 in
set_option maxHeartbeats 4000000 in
theorem c_X4_turn (l : Launch) (D : va_G) (yc : Nat → ClassId) (t1 t2 : Nat) (a : Int → Nat) (A : Nat → Prop) (g : Mm) (k q : Int) (F : Int → Int) (hk : R32 k) (hq : R32 q) (HF : FR g 0 F) (HI : FI F) : Ci l yX4_turn wsX4_turn { frames := 2, cells := 0, slots := 0, locals := 42 } D yc t1 t2 A (cw a yc) [.ref (a (0)), .int (iI (k)), .int (iI (q))] g (fun r9 g' => r9 = (iI (if (k < 0 ∨ F 1 ≤ k) ∨ (q < 0 ∨ 1 < q) then -1 else if 0 < F 4 then -4 else F (6 + k))) ∧ g' = (if (k < 0 ∨ F 1 ≤ k) ∨ (q < 0 ∨ 1 < q) then g else if 0 < F 4 then g else mu g (31 + 0) k q)) := by
  refine start_i (cc := cX4_turn) (nL := 4) (ret := (some .int)) (own := RX4) (by decide +kernel) rfl rfl (Nat.le_of_ble_eq_true rfl) ?_
  intro p e s m9 below meth c9 C
  have wf21 : Cond.fieldLink RX4 21 (TX4 2).1 (TX4 2).2.1 (TX4 2).2.2.1 ∈ wsX4_turn := by decide +kernel
  have hinX4 : ∀ w ∈ u_ws RX4 TX4 10, w ∈ wsX4_turn := by decide +kernel
  have wf145 : Cond.fieldLink RX4 145 (TX1 5).1 (TX1 5).2.1 (TX1 5).2.2.1 ∈ wsX4_turn := by decide +kernel
  have hinX1 : ∀ w ∈ u_ws RX1 TX1 11, w ∈ wsX4_turn := by decide +kernel
  have wf151 : Cond.fieldLink RX4 151 (TX1 8).1 (TX1 8).2.1 (TX1 8).2.2.1 ∈ wsX4_turn := by decide +kernel
  have wf154 : Cond.fieldLink RX4 154 (TX1 0).1 (TX1 0).2.1 (TX1 0).2.2.1 ∈ wsX4_turn := by decide +kernel
  have hn := HI.n
  refine v_lv (lv' := [(0, .ref (a (0))), (1, .int (iI (k))), (2, .int (iI (q)))]) rfl ?_
  refine v_iload_n C 1 dX4_turn_0 rfl ?_
  refine v_aload_n C 0 dX4_turn_1 rfl ?_
  refine v_getf C (by omega) (by omega) ct_cow rfl 2 (by decide) wf21 hinX4 rfl dX4_turn_2 ?_
  refine v_st (st' := [.ref (a (26 + 0)), .int (iI (k))]) rfl ?_
  refine v_getf C (by omega) (by omega) (ct_farm (by omega) (by omega)) rfl 5 (by decide) wf145 hinX1 rfl dX4_turn_5 ?_
  refine v_st (st' := [.int (iI (F 1)), .int (iI (k))]) (by rw [HF.tc]) ?_
  refine v_cS_i C (As := [.int (iI (k)), .int (iI (F 1))]) (rest := []) (c_X4_isNone l D yc t1 t2 A (cw a yc) g k (F 1) (by omega) (by omega)) (va_cwS 2 C.hts gX4_turn_X4_isNone rfl rfl rfl (by decide +kernel) ⟨by decide, by decide⟩) rfl rfl (Nat.le_of_ble_eq_true rfl) dX4_turn_8 ?_
  intro r9 g9 h9
  rw [h9.1, h9.2]
  clear h9 g9 r9
  try dsimp only
  refine v_ifb_ne (tgt := 21) C dX4_turn_11 (by decide) (fun c11 => ?_) (fun c11 => ?_)
  · skip
    refine v_iconst C dX4_turn_21 ?_
    exact v_ret_i C rfl dX4_turn_22 ⟨(by repeat (first | rfl | rw [if_pos (by omega)] | rw [if_neg (by omega)])), (by repeat (first | rfl | rw [if_pos (by omega)] | rw [if_neg (by omega)]))⟩
  · skip
    refine v_iload_n C 2 dX4_turn_14 rfl ?_
    refine v_cS_i C (As := [.int (iI (q))]) (rest := []) (c_X4_isNoFarm l D yc t1 t2 A (cw a yc) g q (by omega)) (va_cwS 1 C.hts gX4_turn_X4_isNoFarm rfl rfl rfl (by decide +kernel) ⟨by decide, by decide⟩) rfl rfl (Nat.le_of_ble_eq_true rfl) dX4_turn_15 ?_
    intro r9 g9 h9
    rw [h9.1, h9.2]
    clear h9 g9 r9
    try dsimp only
    refine v_ifb_eq (tgt := 23) C dX4_turn_18 (by decide) (fun c18 => ?_) (fun c18 => ?_)
    · skip
      refine v_aload_n C 0 dX4_turn_23 rfl ?_
      refine v_getf C (by omega) (by omega) ct_cow rfl 2 (by decide) wf21 hinX4 rfl dX4_turn_24 ?_
      refine v_st (st' := [.ref (a (26 + 0))]) rfl ?_
      refine v_getf C (by omega) (by omega) (ct_farm (by omega) (by omega)) rfl 8 (by decide) wf151 hinX1 rfl dX4_turn_27 ?_
      refine v_st (st' := [.int (iI (F 4))]) (by rw [HF.dc]) ?_
      refine v_if_le (tgt := 36) C dX4_turn_30 (by decide) (by omega) (fun c30 => ?_) (fun c30 => ?_)
      · skip
        refine v_aload_n C 0 dX4_turn_36 rfl ?_
        refine v_getf C (by omega) (by omega) ct_cow rfl 2 (by decide) wf21 hinX4 rfl dX4_turn_37 ?_
        refine v_st (st' := [.ref (a (26 + 0))]) rfl ?_
        refine v_getf C (by omega) (by omega) (ct_farm (by omega) (by omega)) rfl 0 (by decide) wf154 hinX1 rfl dX4_turn_40 ?_
        refine v_st (st' := [.ref (a (31 + 0))]) rfl ?_
        refine v_iload_n C 1 dX4_turn_43 rfl ?_
        refine v_iaload C (by omega) (by omega) (ct_turns (by omega) (by omega)) (by omega) (by omega) (by decide) dX4_turn_44 ?_
        refine v_st (st' := [.int (iI (F (6 + k)))]) (by rw [HF.tn (by omega) (by omega)]) ?_
        refine v_istore_n (lv' := [(3, .int (iI (F (6 + k)))), (0, .ref (a (0))), (1, .int (iI (k))), (2, .int (iI (q)))]) C dX4_turn_45 (by decide) rfl ?_
        refine v_aload_n C 1 dX4_turn_46 rfl ?_
        refine v_getf C (by omega) (by omega) ct_cow rfl 2 (by decide) wf21 hinX4 rfl dX4_turn_47 ?_
        refine v_st (st' := [.ref (a (26 + 0))]) rfl ?_
        refine v_getf C (by omega) (by omega) (ct_farm (by omega) (by omega)) rfl 0 (by decide) wf154 hinX1 rfl dX4_turn_50 ?_
        refine v_st (st' := [.ref (a (31 + 0))]) rfl ?_
        refine v_iload_n C 2 dX4_turn_53 rfl ?_
        refine v_iload_n C 3 dX4_turn_54 rfl ?_
        refine v_iastore C (cta_L a yc) (by omega) (by omega) (ct_turns (by omega) (by omega)) (ct_turns (by omega) (by omega)).symm (by omega) (by omega) (by decide) dX4_turn_55 ?_
        refine v_iload_n C 0 dX4_turn_56 rfl ?_
        exact v_ret_i C rfl dX4_turn_57 ⟨(by repeat (first | rfl | rw [if_pos (by omega)] | rw [if_neg (by omega)])), (by repeat (first | rfl | rw [if_pos (by omega)] | rw [if_neg (by omega)]))⟩
      · skip
        refine v_bipush C dX4_turn_33 (by decide) ?_
        exact v_ret_i C rfl dX4_turn_35 ⟨(by repeat (first | rfl | rw [if_pos (by omega)] | rw [if_neg (by omega)])), (by repeat (first | rfl | rw [if_pos (by omega)] | rw [if_neg (by omega)]))⟩
    · skip
      refine v_iconst C dX4_turn_21 ?_
      exact v_ret_i C rfl dX4_turn_22 ⟨(by repeat (first | rfl | rw [if_pos (by omega)] | rw [if_neg (by omega)])), (by repeat (first | rfl | rw [if_pos (by omega)] | rw [if_neg (by omega)]))⟩

set_option maxRecDepth 100000 in
set_option maxHeartbeats 4000000 in
theorem c_X4_value (l : Launch) (D : va_G) (yc : Nat → ClassId) (t1 t2 : Nat) (a : Int → Nat) (A : Nat → Prop) (g : Mm) (b q : Int) (F : Int → Int) (hb : R32 b) (hq : R32 q) (HF : FR g 0 F) (HI : FI F) : Ci l yX4_value wsX4_value { frames := 2, cells := 0, slots := 0, locals := 45 } D yc t1 t2 A (cw a yc) [.ref (a (0)), .int (iI (b)), .int (iI (q))] g (fun r9 g' => r9 = (iI (if (b < 0 ∨ 1 < b) ∨ (q < 0 ∨ 1 < q) then -1 else VB F (so F b (F 0)) 1 q)) ∧ g' = g) := by
  refine start_i (cc := cX4_value) (nL := 3) (ret := (some .int)) (own := RX4) (by decide +kernel) rfl rfl (Nat.le_of_ble_eq_true rfl) ?_
  intro p e s m9 below meth c9 C
  have wf21 : Cond.fieldLink RX4 21 (TX4 2).1 (TX4 2).2.1 (TX4 2).2.2.1 ∈ wsX4_value := by decide +kernel
  have hinX4 : ∀ w ∈ u_ws RX4 TX4 10, w ∈ wsX4_value := by decide +kernel
  have hn := HI.n
  have hso := so_bd F b (n := F 0) (by omega)
  have hpw := pw_le (i := F 0) (j := 6) (by omega) (by omega)
  rw [show pw 6 = 64 from rfl] at hpw
  refine v_lv (lv' := [(0, .ref (a (0))), (1, .int (iI (b))), (2, .int (iI (q)))]) rfl ?_
  refine v_iload_n C 1 dX4_value_0 rfl ?_
  refine v_cS_i C (As := [.int (iI (b))]) (rest := []) (c_X4_isNoFarm l D yc t1 t2 A (cw a yc) g b (by omega)) (va_cwS 1 C.hts gX4_value_X4_isNoFarm rfl rfl rfl (by decide +kernel) ⟨by decide, by decide⟩) rfl rfl (Nat.le_of_ble_eq_true rfl) dX4_value_1 ?_
  intro r9 g9 h9
  rw [h9.1, h9.2]
  clear h9 g9 r9
  try dsimp only
  refine v_ifb_ne (tgt := 14) C dX4_value_4 (by decide) (fun c4 => ?_) (fun c4 => ?_)
  · skip
    refine v_iconst C dX4_value_14 ?_
    exact v_ret_i C rfl dX4_value_15 ⟨(by repeat (first | rfl | rw [if_pos (by omega)] | rw [if_neg (by omega)])), rfl⟩
  · skip
    refine v_iload_n C 2 dX4_value_7 rfl ?_
    refine v_cS_i C (As := [.int (iI (q))]) (rest := []) (c_X4_isNoFarm l D yc t1 t2 A (cw a yc) g q (by omega)) (va_cwS 1 C.hts gX4_value_X4_isNoFarm rfl rfl rfl (by decide +kernel) ⟨by decide, by decide⟩) rfl rfl (Nat.le_of_ble_eq_true rfl) dX4_value_8 ?_
    intro r9 g9 h9
    rw [h9.1, h9.2]
    clear h9 g9 r9
    try dsimp only
    refine v_ifb_eq (tgt := 16) C dX4_value_11 (by decide) (fun c11 => ?_) (fun c11 => ?_)
    · skip
      refine v_aload_n C 0 dX4_value_16 rfl ?_
      refine v_getf C (by omega) (by omega) ct_cow rfl 2 (by decide) wf21 hinX4 rfl dX4_value_17 ?_
      refine v_st (st' := [.ref (a (26 + 0))]) rfl ?_
      refine v_aload_n C 0 dX4_value_20 rfl ?_
      refine v_getf C (by omega) (by omega) ct_cow rfl 2 (by decide) wf21 hinX4 rfl dX4_value_21 ?_
      refine v_st (st' := [.ref (a (26 + 0)), .ref (a (26 + 0))]) rfl ?_
      refine v_iload_n C 1 dX4_value_24 rfl ?_
      refine v_cV_i C (As := [.int (iI (b))]) (rest := [.ref (a (26 + 0))]) (c_X1_setOf l D yc t1 t2 a A g 0 b F (by omega) HF HI (by omega)) (cwV 1 C.hts gX4_value_X1_setOf rfl rfl rfl (by decide +kernel) ⟨by decide, by decide⟩) (fun H hP => va_recv C.hK hP (ci := 1) (q0 := (26 + 0 : Int).toNat) rfl (wo_is (by omega) (by omega) (ct_farm (by omega) (by omega)))) rfl rfl (Nat.le_of_ble_eq_true rfl) dX4_value_25 ?_
      intro r9 g9 h9
      rw [h9.1, h9.2]
      clear h9 g9 r9
      try dsimp only
      refine v_iload_n C 2 dX4_value_28 rfl ?_
      refine v_cV_i C (As := [.int (iI (so F b (F 0))), .int (iI (q))]) (rest := []) (c_X1_valueOfSet l D yc t1 t2 a A g 0 (so F b (F 0)) q F (by omega) HF HI (by omega) (by omega)) (cwV 2 C.hts gX4_value_X1_valueOfSet rfl rfl rfl (by decide +kernel) ⟨by decide, by decide⟩) (fun H hP => va_recv C.hK hP (ci := 1) (q0 := (26 + 0 : Int).toNat) rfl (wo_is (by omega) (by omega) (ct_farm (by omega) (by omega)))) rfl rfl (Nat.le_of_ble_eq_true rfl) dX4_value_29 ?_
      intro r9 g9 h9
      rw [h9.1, h9.2]
      clear h9 g9 r9
      try dsimp only
      exact v_ret_i C rfl dX4_value_32 ⟨(by repeat (first | rfl | rw [if_pos (by omega)] | rw [if_neg (by omega)])), rfl⟩
    · skip
      refine v_iconst C dX4_value_14 ?_
      exact v_ret_i C rfl dX4_value_15 ⟨(by repeat (first | rfl | rw [if_pos (by omega)] | rw [if_neg (by omega)])), rfl⟩

set_option maxRecDepth 100000 in
set_option maxHeartbeats 4000000 in
theorem c_X4_fair (l : Launch) (D : va_G) (yc : Nat → ClassId) (t1 t2 : Nat) (a : Int → Nat) (A : Nat → Prop) (g : Mm) (F : Int → Int) (HF : FR g 0 F) (HI : FI F) : Ci l yX4_fair wsX4_fair { frames := 3, cells := 0, slots := 0, locals := 68 } D yc t1 t2 A (cw a yc) [.ref (a (0))] g (fun r9 g' => r9 = (iI (if F 0 = 0 then -4 else if fP F (so F 1 (F 0)) (F 5) then 1 else 0)) ∧ g' = g) := by
  refine start_i (cc := cX4_fair) (nL := 1) (ret := (some .int)) (own := RX4) (by decide +kernel) rfl rfl (Nat.le_of_ble_eq_true rfl) ?_
  intro p e s m9 below meth c9 C
  have wf21 : Cond.fieldLink RX4 21 (TX4 2).1 (TX4 2).2.1 (TX4 2).2.2.1 ∈ wsX4_fair := by decide +kernel
  have hinX4 : ∀ w ∈ u_ws RX4 TX4 10, w ∈ wsX4_fair := by decide +kernel
  have wf171 : Cond.fieldLink RX4 171 (TX1 10).1 (TX1 10).2.1 (TX1 10).2.2.1 ∈ wsX4_fair := by decide +kernel
  have hinX1 : ∀ w ∈ u_ws RX1 TX1 11, w ∈ wsX4_fair := by decide +kernel
  have hn := HI.n
  have hso := so_bd F 1 (n := F 0) (by omega)
  have hnt := HI.net
  refine v_lv (lv' := [(0, .ref (a (0)))]) rfl ?_
  refine v_aload_n C 0 dX4_fair_0 rfl ?_
  refine v_getf C (by omega) (by omega) ct_cow rfl 2 (by decide) wf21 hinX4 rfl dX4_fair_1 ?_
  refine v_st (st' := [.ref (a (26 + 0))]) rfl ?_
  refine v_cV_i C (As := []) (rest := []) (c_X1_isMissing l D yc t1 t2 a A g 0 F (by omega) HF HI) (cwV 0 C.hts gX4_fair_X1_isMissing rfl rfl rfl (by decide +kernel) ⟨by decide, by decide⟩) (fun H hP => va_recv C.hK hP (ci := 1) (q0 := (26 + 0 : Int).toNat) rfl (wo_is (by omega) (by omega) (ct_farm (by omega) (by omega)))) rfl rfl (Nat.le_of_ble_eq_true rfl) dX4_fair_4 ?_
  intro r9 g9 h9
  rw [h9.1, h9.2]
  clear h9 g9 r9
  try dsimp only
  refine v_ifb_eq (tgt := 13) C dX4_fair_7 (by decide) (fun c7 => ?_) (fun c7 => ?_)
  · skip
    refine v_aload_n C 0 dX4_fair_13 rfl ?_
    refine v_getf C (by omega) (by omega) ct_cow rfl 2 (by decide) wf21 hinX4 rfl dX4_fair_14 ?_
    refine v_st (st' := [.ref (a (26 + 0))]) rfl ?_
    refine v_aload_n C 0 dX4_fair_17 rfl ?_
    refine v_getf C (by omega) (by omega) ct_cow rfl 2 (by decide) wf21 hinX4 rfl dX4_fair_18 ?_
    refine v_st (st' := [.ref (a (26 + 0)), .ref (a (26 + 0))]) rfl ?_
    refine v_iconst C dX4_fair_21 ?_
    refine v_cV_i C (As := [.int (iI (1))]) (rest := [.ref (a (26 + 0))]) (c_X1_setOf l D yc t1 t2 a A g 0 1 F (by omega) HF HI (by omega)) (cwV 1 C.hts gX4_fair_X1_setOf rfl rfl rfl (by decide +kernel) ⟨by decide, by decide⟩) (fun H hP => va_recv C.hK hP (ci := 1) (q0 := (26 + 0 : Int).toNat) rfl (wo_is (by omega) (by omega) (ct_farm (by omega) (by omega)))) rfl rfl (Nat.le_of_ble_eq_true rfl) dX4_fair_22 ?_
    intro r9 g9 h9
    rw [h9.1, h9.2]
    clear h9 g9 r9
    try dsimp only
    refine v_aload_n C 0 dX4_fair_25 rfl ?_
    refine v_getf C (by omega) (by omega) ct_cow rfl 2 (by decide) wf21 hinX4 rfl dX4_fair_26 ?_
    refine v_st (st' := [.ref (a (26 + 0)), .int (iI (so F 1 (F 0))), .ref (a (26 + 0))]) rfl ?_
    refine v_getf C (by omega) (by omega) (ct_farm (by omega) (by omega)) rfl 10 (by decide) wf171 hinX1 rfl dX4_fair_29 ?_
    refine v_st (st' := [.int (iI (F 5)), .int (iI (so F 1 (F 0))), .ref (a (26 + 0))]) (by rw [HF.pd]) ?_
    refine v_cV_i C (As := [.int (iI (so F 1 (F 0))), .int (iI (F 5))]) (rest := []) (c_X1_noneEnvies l D yc t1 t2 a A g 0 (so F 1 (F 0)) (F 5) F (by omega) HF HI (by omega) (by omega)) (cwV 2 C.hts gX4_fair_X1_noneEnvies rfl rfl rfl (by decide +kernel) ⟨by decide, by decide⟩) (fun H hP => va_recv C.hK hP (ci := 1) (q0 := (26 + 0 : Int).toNat) rfl (wo_is (by omega) (by omega) (ct_farm (by omega) (by omega)))) rfl rfl (Nat.le_of_ble_eq_true rfl) dX4_fair_32 ?_
    intro r9 g9 h9
    rw [h9.1, h9.2]
    clear h9 g9 r9
    try dsimp only
    refine v_ifb_eq (tgt := 42) C dX4_fair_35 (by decide) (fun c35 => ?_) (fun c35 => ?_)
    · skip
      refine v_iconst C dX4_fair_42 ?_
      exact v_ret_i C rfl dX4_fair_43 ⟨(by repeat (first | rfl | rw [if_pos (by first | assumption | omega)] | rw [if_neg (by first | assumption | omega)])), rfl⟩
    · skip
      refine v_iconst C dX4_fair_38 ?_
      refine v_goto (tgt := 43) C dX4_fair_39 (by decide) ?_
      exact v_ret_i C rfl dX4_fair_43 ⟨(by repeat (first | rfl | rw [if_pos (by first | assumption | omega)] | rw [if_neg (by first | assumption | omega)])), rfl⟩
  · skip
    refine v_bipush C dX4_fair_10 (by decide) ?_
    exact v_ret_i C rfl dX4_fair_12 ⟨(by repeat (first | rfl | rw [if_pos (by first | assumption | omega)] | rw [if_neg (by first | assumption | omega)])), rfl⟩

set_option maxRecDepth 100000 in
set_option maxHeartbeats 4000000 in
theorem c_X4_day (l : Launch) (D : va_G) (yc : Nat → ClassId) (t1 t2 : Nat) (a : Int → Nat) (A : Nat → Prop) (g : Mm) (F : Int → Int) (HF : FR g 0 F) (HI : FI F) (ht : 0 ≤ F 3 ∧ F 3 ≤ 999) : Ci l yX4_day wsX4_day { frames := 2, cells := 0, slots := 0, locals := 42 } D yc t1 t2 A (cw a yc) [.ref (a (0))] g (fun r9 g' => r9 = (iI (if F 0 = 0 ∨ 999 ≤ F 3 then -4 else if 60 ≤ F 4 then -2 else F 3 + 1)) ∧ g' = (if F 0 = 0 ∨ 999 ≤ F 3 then g else if 60 ≤ F 4 then g else mu (wd g 0 0 0) (26 + 0) 9 (F 3 + 1))) := by
  refine start_i (cc := cX4_day) (nL := 1) (ret := (some .int)) (own := RX4) (by decide +kernel) rfl rfl (Nat.le_of_ble_eq_true rfl) ?_
  intro p e s m9 below meth c9 C
  have wf21 : Cond.fieldLink RX4 21 (TX4 2).1 (TX4 2).2.1 (TX4 2).2.2.1 ∈ wsX4_day := by decide +kernel
  have hinX4 : ∀ w ∈ u_ws RX4 TX4 10, w ∈ wsX4_day := by decide +kernel
  have wf158 : Cond.fieldLink RX4 158 (TX1 9).1 (TX1 9).2.1 (TX1 9).2.2.1 ∈ wsX4_day := by decide +kernel
  have hinX1 : ∀ w ∈ u_ws RX1 TX1 11, w ∈ wsX4_day := by decide +kernel
  have wf151 : Cond.fieldLink RX4 151 (TX1 8).1 (TX1 8).2.1 (TX1 8).2.2.1 ∈ wsX4_day := by decide +kernel
  have hn := HI.n
  refine v_lv (lv' := [(0, .ref (a (0)))]) rfl ?_
  refine v_aload_n C 0 dX4_day_0 rfl ?_
  refine v_getf C (by omega) (by omega) ct_cow rfl 2 (by decide) wf21 hinX4 rfl dX4_day_1 ?_
  refine v_st (st' := [.ref (a (26 + 0))]) rfl ?_
  refine v_cV_i C (As := []) (rest := []) (c_X1_isMissing l D yc t1 t2 a A g 0 F (by omega) HF HI) (cwV 0 C.hts gX4_day_X1_isMissing rfl rfl rfl (by decide +kernel) ⟨by decide, by decide⟩) (fun H hP => va_recv C.hK hP (ci := 1) (q0 := (26 + 0 : Int).toNat) rfl (wo_is (by omega) (by omega) (ct_farm (by omega) (by omega)))) rfl rfl (Nat.le_of_ble_eq_true rfl) dX4_day_4 ?_
  intro r9 g9 h9
  rw [h9.1, h9.2]
  clear h9 g9 r9
  try dsimp only
  refine v_ifb_ne (tgt := 23) C dX4_day_7 (by decide) (fun c7 => ?_) (fun c7 => ?_)
  · skip
    refine v_bipush C dX4_day_23 (by decide) ?_
    exact v_ret_i C rfl dX4_day_25 ⟨(by repeat (first | rfl | rw [if_pos (by omega)] | rw [if_neg (by omega)])), (by repeat (first | rfl | rw [if_pos (by omega)] | rw [if_neg (by omega)]))⟩
  · skip
    refine v_aload_n C 0 dX4_day_10 rfl ?_
    refine v_getf C (by omega) (by omega) ct_cow rfl 2 (by decide) wf21 hinX4 rfl dX4_day_11 ?_
    refine v_st (st' := [.ref (a (26 + 0))]) rfl ?_
    refine v_getf C (by omega) (by omega) (ct_farm (by omega) (by omega)) rfl 9 (by decide) wf158 hinX1 rfl dX4_day_14 ?_
    refine v_st (st' := [.int (iI (F 3))]) (by rw [HF.td]) ?_
    refine v_sipush C dX4_day_17 (by decide) ?_
    refine v_icmp_lt (tgt := 26) C dX4_day_20 (by decide) (by omega) (by omega) (fun c20 => ?_) (fun c20 => ?_)
    · skip
      refine v_aload_n C 0 dX4_day_26 rfl ?_
      refine v_getf C (by omega) (by omega) ct_cow rfl 2 (by decide) wf21 hinX4 rfl dX4_day_27 ?_
      refine v_st (st' := [.ref (a (26 + 0))]) rfl ?_
      refine v_getf C (by omega) (by omega) (ct_farm (by omega) (by omega)) rfl 8 (by decide) wf151 hinX1 rfl dX4_day_30 ?_
      refine v_st (st' := [.int (iI (F 4))]) (by rw [HF.dc]) ?_
      refine v_bipush C dX4_day_33 (by decide) ?_
      refine v_icmp_lt (tgt := 41) C dX4_day_35 (by decide) (by omega) (by omega) (fun c35 => ?_) (fun c35 => ?_)
      · skip
        refine v_aload_n C 0 dX4_day_41 rfl ?_
        refine v_getf C (by omega) (by omega) ct_cow rfl 2 (by decide) wf21 hinX4 rfl dX4_day_42 ?_
        refine v_st (st' := [.ref (a (26 + 0))]) rfl ?_
        refine v_cV_v C (As := []) (rest := []) (c_X1_letDayGoBy l D yc t1 t2 a A g 0 (by omega) (by rw [HF.dc]; omega) (by rw [HF.td]; omega)) (cwV 0 C.hts gX4_day_X1_letDayGoBy rfl rfl rfl (by decide +kernel) ⟨by decide, by decide⟩) (fun H hP => va_recv C.hK hP (ci := 1) (q0 := (26 + 0 : Int).toNat) rfl (wo_is (by omega) (by omega) (ct_farm (by omega) (by omega)))) rfl rfl (Nat.le_of_ble_eq_true rfl) dX4_day_45 ?_
        intro g9 h9
        rw [h9]
        clear h9 g9
        try dsimp only
        refine v_g (g' := (mu (wd g 0 0 0) (26 + 0) 9 (F 3 + 1))) (by rw [HF.td, if_pos (by omega)]) ?_
        refine v_aload_n C 0 dX4_day_48 rfl ?_
        refine v_getf C (by omega) (by omega) ct_cow rfl 2 (by decide) wf21 hinX4 rfl dX4_day_49 ?_
        refine v_st (st' := [.ref (a (26 + 0))]) rfl ?_
        refine v_getf C (by omega) (by omega) (ct_farm (by omega) (by omega)) rfl 9 (by decide) wf158 hinX1 rfl dX4_day_52 ?_
        refine v_st (st' := [.int (iI (F 3 + 1))]) (by rw [mu_at]) ?_
        exact v_ret_i C rfl dX4_day_55 ⟨(by repeat (first | rfl | rw [if_pos (by omega)] | rw [if_neg (by omega)])), (by repeat (first | rfl | rw [if_pos (by omega)] | rw [if_neg (by omega)]))⟩
      · skip
        refine v_bipush C dX4_day_38 (by decide) ?_
        exact v_ret_i C rfl dX4_day_40 ⟨(by repeat (first | rfl | rw [if_pos (by omega)] | rw [if_neg (by omega)])), (by repeat (first | rfl | rw [if_pos (by omega)] | rw [if_neg (by omega)]))⟩
    · skip
      refine v_bipush C dX4_day_23 (by decide) ?_
      exact v_ret_i C rfl dX4_day_25 ⟨(by repeat (first | rfl | rw [if_pos (by omega)] | rw [if_neg (by omega)])), (by repeat (first | rfl | rw [if_pos (by omega)] | rw [if_neg (by omega)]))⟩

set_option maxRecDepth 100000 in
set_option maxHeartbeats 4000000 in
theorem c_X4_drive (l : Launch) (D : va_G) (yc : Nat → ClassId) (t1 t2 : Nat) (a : Int → Nat) (A : Nat → Prop) (g : Mm) (i : Int) (F : Int → Int) (hi : R32 i) (HF : FR g 0 F) (HI : FI F) : Ci l yX4_drive wsX4_drive { frames := 2, cells := 0, slots := 0, locals := 43 } D yc t1 t2 A (cw a yc) [.ref (a (0)), .int (iI (i))] g (fun r9 g' => r9 = (iI (if i < 0 ∨ F 0 ≤ i then -1 else if 60 ≤ F 4 then -2 else 1 - F (20 + 3 * i + 2))) ∧ g' = (if i < 0 ∨ F 0 ≤ i then g else if 60 ≤ F 4 then g else mu (wd g 0 1 i) (56 + 6 * 0 + i) 2 (1 - F (20 + 3 * i + 2)))) := by
  refine start_i (cc := cX4_drive) (nL := 2) (ret := (some .int)) (own := RX4) (by decide +kernel) rfl rfl (Nat.le_of_ble_eq_true rfl) ?_
  intro p e s m9 below meth c9 C
  have wf21 : Cond.fieldLink RX4 21 (TX4 2).1 (TX4 2).2.1 (TX4 2).2.2.1 ∈ wsX4_drive := by decide +kernel
  have hinX4 : ∀ w ∈ u_ws RX4 TX4 10, w ∈ wsX4_drive := by decide +kernel
  have wf108 : Cond.fieldLink RX4 108 (TX1 7).1 (TX1 7).2.1 (TX1 7).2.2.1 ∈ wsX4_drive := by decide +kernel
  have hinX1 : ∀ w ∈ u_ws RX1 TX1 11, w ∈ wsX4_drive := by decide +kernel
  have wf151 : Cond.fieldLink RX4 151 (TX1 8).1 (TX1 8).2.1 (TX1 8).2.2.1 ∈ wsX4_drive := by decide +kernel
  have wf111 : Cond.fieldLink RX4 111 (TX1 2).1 (TX1 2).2.1 (TX1 2).2.2.1 ∈ wsX4_drive := by decide +kernel
  have wf136 : Cond.fieldLink RX4 136 (TX0 2).1 (TX0 2).2.1 (TX0 2).2.2.1 ∈ wsX4_drive := by decide +kernel
  have hinX0 : ∀ w ∈ u_ws RX0 TX0 5, w ∈ wsX4_drive := by decide +kernel
  have hn := HI.n
  refine v_lv (lv' := [(0, .ref (a (0))), (1, .int (iI (i)))]) rfl ?_
  refine v_iload_n C 1 dX4_drive_0 rfl ?_
  refine v_aload_n C 0 dX4_drive_1 rfl ?_
  refine v_getf C (by omega) (by omega) ct_cow rfl 2 (by decide) wf21 hinX4 rfl dX4_drive_2 ?_
  refine v_st (st' := [.ref (a (26 + 0)), .int (iI (i))]) rfl ?_
  refine v_getf C (by omega) (by omega) (ct_farm (by omega) (by omega)) rfl 7 (by decide) wf108 hinX1 rfl dX4_drive_5 ?_
  refine v_st (st' := [.int (iI (F 0)), .int (iI (i))]) (by rw [HF.bc]) ?_
  refine v_cS_i C (As := [.int (iI (i)), .int (iI (F 0))]) (rest := []) (c_X4_isNone l D yc t1 t2 A (cw a yc) g i (F 0) (by omega) (by omega)) (va_cwS 2 C.hts gX4_drive_X4_isNone rfl rfl rfl (by decide +kernel) ⟨by decide, by decide⟩) rfl rfl (Nat.le_of_ble_eq_true rfl) dX4_drive_8 ?_
  intro r9 g9 h9
  rw [h9.1, h9.2]
  clear h9 g9 r9
  try dsimp only
  refine v_ifb_eq (tgt := 16) C dX4_drive_11 (by decide) (fun c11 => ?_) (fun c11 => ?_)
  · skip
    refine v_aload_n C 0 dX4_drive_16 rfl ?_
    refine v_getf C (by omega) (by omega) ct_cow rfl 2 (by decide) wf21 hinX4 rfl dX4_drive_17 ?_
    refine v_st (st' := [.ref (a (26 + 0))]) rfl ?_
    refine v_getf C (by omega) (by omega) (ct_farm (by omega) (by omega)) rfl 8 (by decide) wf151 hinX1 rfl dX4_drive_20 ?_
    refine v_st (st' := [.int (iI (F 4))]) (by rw [HF.dc]) ?_
    refine v_bipush C dX4_drive_23 (by decide) ?_
    refine v_icmp_lt (tgt := 31) C dX4_drive_25 (by decide) (by omega) (by omega) (fun c25 => ?_) (fun c25 => ?_)
    · skip
      refine v_aload_n C 0 dX4_drive_31 rfl ?_
      refine v_getf C (by omega) (by omega) ct_cow rfl 2 (by decide) wf21 hinX4 rfl dX4_drive_32 ?_
      refine v_st (st' := [.ref (a (26 + 0))]) rfl ?_
      refine v_iload_n C 1 dX4_drive_35 rfl ?_
      refine v_cV_v C (As := [.int (iI (i))]) (rest := []) (c_X1_driveOver l D yc t1 t2 a A g 0 i (by omega) (by rw [HF.dc]; omega) (by rw [HF.bc]; omega) (by rw [HF.bc]; omega)) (cwV 1 C.hts gX4_drive_X1_driveOver rfl rfl rfl (by decide +kernel) ⟨by decide, by decide⟩) (fun H hP => va_recv C.hK hP (ci := 1) (q0 := (26 + 0 : Int).toNat) rfl (wo_is (by omega) (by omega) (ct_farm (by omega) (by omega)))) rfl rfl (Nat.le_of_ble_eq_true rfl) dX4_drive_36 ?_
      intro g9 h9
      rw [h9]
      clear h9 g9
      try dsimp only
      refine v_g (g' := (mu (wd g 0 1 i) (56 + 6 * 0 + i) 2 (1 - F (20 + 3 * i + 2)))) (by rw [(HF.bs (i := i) (by omega) (by omega)).2.2.1]) ?_
      refine v_aload_n C 0 dX4_drive_39 rfl ?_
      refine v_getf C (by omega) (by omega) ct_cow rfl 2 (by decide) wf21 hinX4 rfl dX4_drive_40 ?_
      refine v_st (st' := [.ref (a (26 + 0))]) rfl ?_
      refine v_getf C (by omega) (by omega) (ct_farm (by omega) (by omega)) rfl 2 (by decide) wf111 hinX1 rfl dX4_drive_43 ?_
      refine v_st (st' := [.ref (a (41 + 0))]) rfl ?_
      refine v_iload_n C 1 dX4_drive_46 rfl ?_
      refine v_aaload (f := fun j => 56 + 6 * 0 + j) C (by omega) (by omega) 2 rfl (ct_beastsA (by omega) (by omega)) (by omega) (by omega) (by decide) dX4_drive_47 ?_
      refine v_getf C (by omega) (by omega) (ct_beast (by omega) (by omega) (by omega) (by omega)) rfl 2 (by decide) wf136 hinX0 rfl dX4_drive_48 ?_
      refine v_st (st' := [.int (iI (1 - F (20 + 3 * i + 2)))]) (by rw [mu_at]) ?_
      exact v_ret_i C rfl dX4_drive_51 ⟨(by repeat (first | rfl | rw [if_pos (by omega)] | rw [if_neg (by omega)])), (by repeat (first | rfl | rw [if_pos (by omega)] | rw [if_neg (by omega)]))⟩
    · skip
      refine v_bipush C dX4_drive_28 (by decide) ?_
      exact v_ret_i C rfl dX4_drive_30 ⟨(by repeat (first | rfl | rw [if_pos (by omega)] | rw [if_neg (by omega)])), (by repeat (first | rfl | rw [if_pos (by omega)] | rw [if_neg (by omega)]))⟩
  · skip
    refine v_iconst C dX4_drive_14 ?_
    exact v_ret_i C rfl dX4_drive_15 ⟨(by repeat (first | rfl | rw [if_pos (by omega)] | rw [if_neg (by omega)])), (by repeat (first | rfl | rw [if_pos (by omega)] | rw [if_neg (by omega)]))⟩

set_option maxRecDepth 100000 in
set_option maxHeartbeats 4000000 in
theorem c_X4_pay (l : Launch) (D : va_G) (yc : Nat → ClassId) (t1 t2 : Nat) (a : Int → Nat) (A : Nat → Prop) (g : Mm) (q x : Int) (F : Int → Int) (hq : R32 q) (hx : R32 x) (HF : FR g 0 F) (HI : FI F) : Ci l yX4_pay wsX4_pay { frames := 2, cells := 0, slots := 0, locals := 45 } D yc t1 t2 A (cw a yc) [.ref (a (0)), .int (iI (q)), .int (iI (x))] g (fun r9 g' => r9 = (iI (if (q < 0 ∨ 1 < q) ∨ (x < 1 ∨ 99 < x) then -1 else if F 0 = 0 then -4 else if 60 ≤ F 4 then -2 else F 5 + (if q = 0 then -x else x) + 10000)) ∧ g' = (if (q < 0 ∨ 1 < q) ∨ (x < 1 ∨ 99 < x) then g else if F 0 = 0 then g else if 60 ≤ F 4 then g else mu (wd g 0 2 (if q = 0 then -x else x)) (26 + 0) 10 (F 5 + (if q = 0 then -x else x)))) := by
  refine start_i (cc := cX4_pay) (nL := 3) (ret := (some .int)) (own := RX4) (by decide +kernel) rfl rfl (Nat.le_of_ble_eq_true rfl) ?_
  intro p e s m9 below meth c9 C
  have wf21 : Cond.fieldLink RX4 21 (TX4 2).1 (TX4 2).2.1 (TX4 2).2.2.1 ∈ wsX4_pay := by decide +kernel
  have hinX4 : ∀ w ∈ u_ws RX4 TX4 10, w ∈ wsX4_pay := by decide +kernel
  have wf151 : Cond.fieldLink RX4 151 (TX1 8).1 (TX1 8).2.1 (TX1 8).2.2.1 ∈ wsX4_pay := by decide +kernel
  have hinX1 : ∀ w ∈ u_ws RX1 TX1 11, w ∈ wsX4_pay := by decide +kernel
  have wf171 : Cond.fieldLink RX4 171 (TX1 10).1 (TX1 10).2.1 (TX1 10).2.2.1 ∈ wsX4_pay := by decide +kernel
  have hn := HI.n
  have hnt := HI.net
  refine v_lv (lv' := [(0, .ref (a (0))), (1, .int (iI (q))), (2, .int (iI (x)))]) rfl ?_
  refine v_iload_n C 1 dX4_pay_0 rfl ?_
  refine v_cS_i C (As := [.int (iI (q))]) (rest := []) (c_X4_isNoFarm l D yc t1 t2 A (cw a yc) g q (by omega)) (va_cwS 1 C.hts gX4_pay_X4_isNoFarm rfl rfl rfl (by decide +kernel) ⟨by decide, by decide⟩) rfl rfl (Nat.le_of_ble_eq_true rfl) dX4_pay_1 ?_
  intro r9 g9 h9
  rw [h9.1, h9.2]
  clear h9 g9 r9
  try dsimp only
  refine v_ifb_ne (tgt := 17) C dX4_pay_4 (by decide) (fun c4 => ?_) (fun c4 => ?_)
  · skip
    refine v_iconst C dX4_pay_17 ?_
    exact v_ret_i C rfl dX4_pay_18 ⟨(by first | rw [if_pos (show (q < 0 ∨ 1 < q) ∨ (x < 1 ∨ 99 < x) by omega)] | rw [if_neg (show ¬ ((q < 0 ∨ 1 < q) ∨ (x < 1 ∨ 99 < x)) by omega), if_pos (show F 0 = 0 by omega)] | rw [if_neg (show ¬ ((q < 0 ∨ 1 < q) ∨ (x < 1 ∨ 99 < x)) by omega), if_neg (show ¬ F 0 = 0 by omega), if_pos (show 60 ≤ F 4 by omega)] | rw [if_neg (show ¬ ((q < 0 ∨ 1 < q) ∨ (x < 1 ∨ 99 < x)) by omega), if_neg (show ¬ F 0 = 0 by omega), if_neg (show ¬ 60 ≤ F 4 by omega)]), (by first | rw [if_pos (show (q < 0 ∨ 1 < q) ∨ (x < 1 ∨ 99 < x) by omega)] | rw [if_neg (show ¬ ((q < 0 ∨ 1 < q) ∨ (x < 1 ∨ 99 < x)) by omega), if_pos (show F 0 = 0 by omega)] | rw [if_neg (show ¬ ((q < 0 ∨ 1 < q) ∨ (x < 1 ∨ 99 < x)) by omega), if_neg (show ¬ F 0 = 0 by omega), if_pos (show 60 ≤ F 4 by omega)] | rw [if_neg (show ¬ ((q < 0 ∨ 1 < q) ∨ (x < 1 ∨ 99 < x)) by omega), if_neg (show ¬ F 0 = 0 by omega), if_neg (show ¬ 60 ≤ F 4 by omega)])⟩
  · skip
    refine v_iload_n C 2 dX4_pay_7 rfl ?_
    refine v_iconst C dX4_pay_8 ?_
    refine v_bipush C dX4_pay_9 (by decide) ?_
    refine v_cS_i C (As := [.int (iI (x)), .int (iI (1)), .int (iI (99))]) (rest := []) (c_X4_outside l D yc t1 t2 A (cw a yc) g x 1 99 (by omega) (by omega) (by omega)) (va_cwS 3 C.hts gX4_pay_X4_outside rfl rfl rfl (by decide +kernel) ⟨by decide, by decide⟩) rfl rfl (Nat.le_of_ble_eq_true rfl) dX4_pay_11 ?_
    intro r9 g9 h9
    rw [h9.1, h9.2]
    clear h9 g9 r9
    try dsimp only
    refine v_ifb_eq (tgt := 19) C dX4_pay_14 (by decide) (fun c14 => ?_) (fun c14 => ?_)
    · skip
      refine v_aload_n C 0 dX4_pay_19 rfl ?_
      refine v_getf C (by omega) (by omega) ct_cow rfl 2 (by decide) wf21 hinX4 rfl dX4_pay_20 ?_
      refine v_st (st' := [.ref (a (26 + 0))]) rfl ?_
      refine v_cV_i C (As := []) (rest := []) (c_X1_isMissing l D yc t1 t2 a A g 0 F (by omega) HF HI) (cwV 0 C.hts gX4_pay_X1_isMissing rfl rfl rfl (by decide +kernel) ⟨by decide, by decide⟩) (fun H hP => va_recv C.hK hP (ci := 1) (q0 := (26 + 0 : Int).toNat) rfl (wo_is (by omega) (by omega) (ct_farm (by omega) (by omega)))) rfl rfl (Nat.le_of_ble_eq_true rfl) dX4_pay_23 ?_
      intro r9 g9 h9
      rw [h9.1, h9.2]
      clear h9 g9 r9
      try dsimp only
      refine v_ifb_eq (tgt := 32) C dX4_pay_26 (by decide) (fun c26 => ?_) (fun c26 => ?_)
      · skip
        refine v_aload_n C 0 dX4_pay_32 rfl ?_
        refine v_getf C (by omega) (by omega) ct_cow rfl 2 (by decide) wf21 hinX4 rfl dX4_pay_33 ?_
        refine v_st (st' := [.ref (a (26 + 0))]) rfl ?_
        refine v_getf C (by omega) (by omega) (ct_farm (by omega) (by omega)) rfl 8 (by decide) wf151 hinX1 rfl dX4_pay_36 ?_
        refine v_st (st' := [.int (iI (F 4))]) (by rw [HF.dc]) ?_
        refine v_bipush C dX4_pay_39 (by decide) ?_
        refine v_icmp_lt (tgt := 47) C dX4_pay_41 (by decide) (by omega) (by omega) (fun c41 => ?_) (fun c41 => ?_)
        · skip
          refine v_aload_n C 0 dX4_pay_47 rfl ?_
          refine v_getf C (by omega) (by omega) ct_cow rfl 2 (by decide) wf21 hinX4 rfl dX4_pay_48 ?_
          refine v_st (st' := [.ref (a (26 + 0))]) rfl ?_
          refine v_iload_n C 1 dX4_pay_51 rfl ?_
          refine v_iload_n C 2 dX4_pay_52 rfl ?_
          refine v_cV_v C (As := [.int (iI (q)), .int (iI (x))]) (rest := []) (c_X1_payOver l D yc t1 t2 a A g 0 q x (by omega) (by rw [HF.dc]; omega) (by omega)) (cwV 2 C.hts gX4_pay_X1_payOver rfl rfl rfl (by decide +kernel) ⟨by decide, by decide⟩) (fun H hP => va_recv C.hK hP (ci := 1) (q0 := (26 + 0 : Int).toNat) rfl (wo_is (by omega) (by omega) (ct_farm (by omega) (by omega)))) rfl rfl (Nat.le_of_ble_eq_true rfl) dX4_pay_53 ?_
          intro g9 h9
          rw [h9]
          clear h9 g9
          try dsimp only
          refine v_g (g' := (mu (wd g 0 2 (if q = 0 then -x else x)) (26 + 0) 10 (F 5 + (if q = 0 then -x else x)))) (by rw [HF.pd]) ?_
          refine v_aload_n C 0 dX4_pay_56 rfl ?_
          refine v_getf C (by omega) (by omega) ct_cow rfl 2 (by decide) wf21 hinX4 rfl dX4_pay_57 ?_
          refine v_st (st' := [.ref (a (26 + 0))]) rfl ?_
          refine v_getf C (by omega) (by omega) (ct_farm (by omega) (by omega)) rfl 10 (by decide) wf171 hinX1 rfl dX4_pay_60 ?_
          refine v_st (st' := [.int (iI (F 5 + (if q = 0 then -x else x)))]) (by rw [mu_at]) ?_
          refine v_sipush C dX4_pay_63 (by decide) ?_
          refine v_iadd C dX4_pay_66 ?_
          exact v_ret_i C rfl dX4_pay_67 ⟨(by first | rw [if_pos (show (q < 0 ∨ 1 < q) ∨ (x < 1 ∨ 99 < x) by omega)] | rw [if_neg (show ¬ ((q < 0 ∨ 1 < q) ∨ (x < 1 ∨ 99 < x)) by omega), if_pos (show F 0 = 0 by omega)] | rw [if_neg (show ¬ ((q < 0 ∨ 1 < q) ∨ (x < 1 ∨ 99 < x)) by omega), if_neg (show ¬ F 0 = 0 by omega), if_pos (show 60 ≤ F 4 by omega)] | rw [if_neg (show ¬ ((q < 0 ∨ 1 < q) ∨ (x < 1 ∨ 99 < x)) by omega), if_neg (show ¬ F 0 = 0 by omega), if_neg (show ¬ 60 ≤ F 4 by omega)]), (by first | rw [if_pos (show (q < 0 ∨ 1 < q) ∨ (x < 1 ∨ 99 < x) by omega)] | rw [if_neg (show ¬ ((q < 0 ∨ 1 < q) ∨ (x < 1 ∨ 99 < x)) by omega), if_pos (show F 0 = 0 by omega)] | rw [if_neg (show ¬ ((q < 0 ∨ 1 < q) ∨ (x < 1 ∨ 99 < x)) by omega), if_neg (show ¬ F 0 = 0 by omega), if_pos (show 60 ≤ F 4 by omega)] | rw [if_neg (show ¬ ((q < 0 ∨ 1 < q) ∨ (x < 1 ∨ 99 < x)) by omega), if_neg (show ¬ F 0 = 0 by omega), if_neg (show ¬ 60 ≤ F 4 by omega)])⟩
        · skip
          refine v_bipush C dX4_pay_44 (by decide) ?_
          exact v_ret_i C rfl dX4_pay_46 ⟨(by first | rw [if_pos (show (q < 0 ∨ 1 < q) ∨ (x < 1 ∨ 99 < x) by omega)] | rw [if_neg (show ¬ ((q < 0 ∨ 1 < q) ∨ (x < 1 ∨ 99 < x)) by omega), if_pos (show F 0 = 0 by omega)] | rw [if_neg (show ¬ ((q < 0 ∨ 1 < q) ∨ (x < 1 ∨ 99 < x)) by omega), if_neg (show ¬ F 0 = 0 by omega), if_pos (show 60 ≤ F 4 by omega)] | rw [if_neg (show ¬ ((q < 0 ∨ 1 < q) ∨ (x < 1 ∨ 99 < x)) by omega), if_neg (show ¬ F 0 = 0 by omega), if_neg (show ¬ 60 ≤ F 4 by omega)]), (by first | rw [if_pos (show (q < 0 ∨ 1 < q) ∨ (x < 1 ∨ 99 < x) by omega)] | rw [if_neg (show ¬ ((q < 0 ∨ 1 < q) ∨ (x < 1 ∨ 99 < x)) by omega), if_pos (show F 0 = 0 by omega)] | rw [if_neg (show ¬ ((q < 0 ∨ 1 < q) ∨ (x < 1 ∨ 99 < x)) by omega), if_neg (show ¬ F 0 = 0 by omega), if_pos (show 60 ≤ F 4 by omega)] | rw [if_neg (show ¬ ((q < 0 ∨ 1 < q) ∨ (x < 1 ∨ 99 < x)) by omega), if_neg (show ¬ F 0 = 0 by omega), if_neg (show ¬ 60 ≤ F 4 by omega)])⟩
      · skip
        refine v_bipush C dX4_pay_29 (by decide) ?_
        exact v_ret_i C rfl dX4_pay_31 ⟨(by first | rw [if_pos (show (q < 0 ∨ 1 < q) ∨ (x < 1 ∨ 99 < x) by omega)] | rw [if_neg (show ¬ ((q < 0 ∨ 1 < q) ∨ (x < 1 ∨ 99 < x)) by omega), if_pos (show F 0 = 0 by omega)] | rw [if_neg (show ¬ ((q < 0 ∨ 1 < q) ∨ (x < 1 ∨ 99 < x)) by omega), if_neg (show ¬ F 0 = 0 by omega), if_pos (show 60 ≤ F 4 by omega)] | rw [if_neg (show ¬ ((q < 0 ∨ 1 < q) ∨ (x < 1 ∨ 99 < x)) by omega), if_neg (show ¬ F 0 = 0 by omega), if_neg (show ¬ 60 ≤ F 4 by omega)]), (by first | rw [if_pos (show (q < 0 ∨ 1 < q) ∨ (x < 1 ∨ 99 < x) by omega)] | rw [if_neg (show ¬ ((q < 0 ∨ 1 < q) ∨ (x < 1 ∨ 99 < x)) by omega), if_pos (show F 0 = 0 by omega)] | rw [if_neg (show ¬ ((q < 0 ∨ 1 < q) ∨ (x < 1 ∨ 99 < x)) by omega), if_neg (show ¬ F 0 = 0 by omega), if_pos (show 60 ≤ F 4 by omega)] | rw [if_neg (show ¬ ((q < 0 ∨ 1 < q) ∨ (x < 1 ∨ 99 < x)) by omega), if_neg (show ¬ F 0 = 0 by omega), if_neg (show ¬ 60 ≤ F 4 by omega)])⟩
    · skip
      refine v_iconst C dX4_pay_17 ?_
      exact v_ret_i C rfl dX4_pay_18 ⟨(by first | rw [if_pos (show (q < 0 ∨ 1 < q) ∨ (x < 1 ∨ 99 < x) by omega)] | rw [if_neg (show ¬ ((q < 0 ∨ 1 < q) ∨ (x < 1 ∨ 99 < x)) by omega), if_pos (show F 0 = 0 by omega)] | rw [if_neg (show ¬ ((q < 0 ∨ 1 < q) ∨ (x < 1 ∨ 99 < x)) by omega), if_neg (show ¬ F 0 = 0 by omega), if_pos (show 60 ≤ F 4 by omega)] | rw [if_neg (show ¬ ((q < 0 ∨ 1 < q) ∨ (x < 1 ∨ 99 < x)) by omega), if_neg (show ¬ F 0 = 0 by omega), if_neg (show ¬ 60 ≤ F 4 by omega)]), (by first | rw [if_pos (show (q < 0 ∨ 1 < q) ∨ (x < 1 ∨ 99 < x) by omega)] | rw [if_neg (show ¬ ((q < 0 ∨ 1 < q) ∨ (x < 1 ∨ 99 < x)) by omega), if_pos (show F 0 = 0 by omega)] | rw [if_neg (show ¬ ((q < 0 ∨ 1 < q) ∨ (x < 1 ∨ 99 < x)) by omega), if_neg (show ¬ F 0 = 0 by omega), if_pos (show 60 ≤ F 4 by omega)] | rw [if_neg (show ¬ ((q < 0 ∨ 1 < q) ∨ (x < 1 ∨ 99 < x)) by omega), if_neg (show ¬ F 0 = 0 by omega), if_neg (show ¬ 60 ≤ F 4 by omega)])⟩

set_option maxRecDepth 100000 in
set_option maxHeartbeats 4000000 in
theorem c_X1_undoFrom_b (l : Launch) (D : va_G) (yc : Nat → ClassId) (t1 t2 : Nat) (a : Int → Nat) (A : Nat → Prop) (g : Mm) (f n : Int) (hf : 0 ≤ f ∧ f < 5) (hd : 0 ≤ g (26 + f) 8 ∧ g (26 + f) 8 ≤ 60) (hn : 0 ≤ n ∧ n ≤ g (26 + f) 8) (HK : ∀ j, R32 (g (46 + f) j) ∧ R32 (g (51 + f) j)) : Cv l yX1_undoFrom wsX1_undoFrom { frames := 2, cells := 0, slots := 0, locals := 43 } D yc t1 t2 A (cw a yc) [.ref (a (26 + f)), .int (iI (n))] g (fun g' => g' = (unN g f (g (26 + f) 8) (g (26 + f) 8 - n).toNat)) := by
  refine start_v (cc := cX1_undoFrom) (nL := 3) (ret := none) (own := RX1) (by decide +kernel) rfl rfl (Nat.le_of_ble_eq_true rfl) ?_
  intro p e s m9 below meth c9 C
  have wf41 : Cond.fieldLink RX1 41 (TX1 8).1 (TX1 8).2.1 (TX1 8).2.2.1 ∈ wsX1_undoFrom := by decide +kernel
  have hinX1 : ∀ w ∈ u_ws RX1 TX1 11, w ∈ wsX1_undoFrom := by decide +kernel
  have wf24 : Cond.fieldLink RX1 24 (TX1 3).1 (TX1 3).2.1 (TX1 3).2.2.1 ∈ wsX1_undoFrom := by decide +kernel
  have wf27 : Cond.fieldLink RX1 27 (TX1 4).1 (TX1 4).2.1 (TX1 4).2.2.1 ∈ wsX1_undoFrom := by decide +kernel
  refine v_lv (lv' := [(0, .ref (a (26 + f))), (1, .int (iI (n)))]) rfl ?_
  refine v_aload_n C 0 dX1_undoFrom_0 rfl ?_
  refine v_getf C (by omega) (by omega) (ct_farm (by omega) (by omega)) rfl 8 (by decide) wf41 hinX1 rfl dX1_undoFrom_1 ?_
  refine v_iconst C dX1_undoFrom_4 ?_
  refine v_isub C dX1_undoFrom_5 ?_
  refine v_istore_n (lv' := [(2, .int (iI ((g (26 + f) (8)) - 1))), (0, .ref (a (26 + f))), (1, .int (iI (n)))]) C dX1_undoFrom_6 (by decide) rfl ?_
  refine v_g (g' := (unN g f (g (26 + f) 8) (g (26 + f) 8 - 1 - (g (26 + f) 8 - 1)).toNat)) (by rw [show (g (26 + f) 8 - 1 - (g (26 + f) 8 - 1)).toNat = 0 by omega]; rfl) ?_
  refine v_lv (congrArg (fun x9 => ([(2, .int (iI x9)), (0, .ref (a (26 + f))), (1, .int (iI (n)))] : List (Nat × Value))) (show ((g (26 + f) (8)) - 1) = (((g (26 + f) 8 - 1))) by first | rfl | omega | (simp; done))) ?_
  refine v_loop1 (fun (x : Int) => (x + 1).toNat) (fun (x : Int) => n - 1 ≤ x ∧ x ≤ g (26 + f) 8 - 1) (fun (x : Int) => [(2, .int (iI (x))), (0, .ref (a (26 + f))), (1, .int (iI (n)))]) (fun (x : Int) => (unN g f (g (26 + f) 8) (g (26 + f) 8 - 1 - x).toNat)) ?_ (g (26 + f) 8 - 1) (by omega)
  intro x hI7 ih7
  try dsimp only at ih7 ⊢
  refine v_iload_n C 0 dX1_undoFrom_7 rfl ?_
  refine v_iload_n C 2 dX1_undoFrom_8 rfl ?_
  refine v_icmp_lt (tgt := 43) C dX1_undoFrom_9 (by decide) (by omega) (by omega) (fun c9 => ?_) (fun c9 => ?_)
  · skip
    exact v_ret_v C rfl dX1_undoFrom_43 (by rw [show (g (26 + f) 8 - 1 - x).toNat = (g (26 + f) 8 - n).toNat by omega])
  · skip
    refine v_iload_n C 0 dX1_undoFrom_12 rfl ?_
    refine v_if_lt (tgt := 43) C dX1_undoFrom_13 (by decide) (by omega) (fun c13 => ?_) (fun c13 => ?_)
    · exact absurd c13 (by omega)
    · skip
      refine v_aload_n C 1 dX1_undoFrom_16 rfl ?_
      refine v_aload_n C 1 dX1_undoFrom_17 rfl ?_
      refine v_getf C (by omega) (by omega) (ct_farm (by omega) (by omega)) rfl 3 (by decide) wf24 hinX1 rfl dX1_undoFrom_18 ?_
      refine v_iload_n C 0 dX1_undoFrom_21 rfl ?_
      refine v_iaload C (by omega) (by omega) (ct_dk (by omega) (by omega)) (by omega) (by omega) (by decide) dX1_undoFrom_22 ?_
      refine v_aload_n C 1 dX1_undoFrom_23 rfl ?_
      refine v_getf C (by omega) (by omega) (ct_farm (by omega) (by omega)) rfl 4 (by decide) wf27 hinX1 rfl dX1_undoFrom_24 ?_
      refine v_iload_n C 0 dX1_undoFrom_27 rfl ?_
      refine v_iaload C (by omega) (by omega) (ct_dt (by omega) (by omega)) (by omega) (by omega) (by decide) dX1_undoFrom_28 ?_
      refine v_cV_v C (As := [.int (iI ((unN g f (g (26 + f) 8) (g (26 + f) 8 - 1 - x).toNat) (46 + f) (x))), .int (iI ((unN g f (g (26 + f) 8) (g (26 + f) 8 - 1 - x).toNat) (51 + f) (x)))]) (rest := []) (c_X1_undoDeed l D yc t1 t2 a A (unN g f (g (26 + f) 8) (g (26 + f) 8 - 1 - x).toNat) f ((unN g f (g (26 + f) 8) (g (26 + f) 8 - 1 - x).toNat) (46 + f) (x)) ((unN g f (g (26 + f) 8) (g (26 + f) 8 - 1 - x).toNat) (51 + f) (x)) (by omega) (by rw [unN_o (by omega) (by omega)]; exact (HK _).1) (by rw [unN_o (by omega) (by omega)]; exact (HK _).2)) (cwV 2 C.hts gX1_undoFrom_X1_undoDeed rfl rfl rfl (by decide +kernel) ⟨by decide, by decide⟩) (fun H hP => va_recv C.hK hP (ci := 1) (q0 := (26 + f : Int).toNat) rfl (wo_is (by omega) (by omega) (ct_farm (by omega) (by omega)))) rfl rfl (Nat.le_of_ble_eq_true rfl) dX1_undoFrom_29 ?_
      intro g9 h9
      rw [h9]
      clear h9 g9
      try dsimp only
      refine v_aload_n C 1 dX1_undoFrom_32 rfl ?_
      refine v_iload_n C 0 dX1_undoFrom_33 rfl ?_
      refine v_puti C (cta_L a yc) (by omega) (by omega) (ct_farm (by omega) (by omega)) rfl 8 (by decide) wf41 hinX1 tyX1 tyX1_ok nmX1 rfl (by decide +kernel) (by simp) (cs_farm_8 (by omega) (by omega)) dX1_undoFrom_34 ?_
      refine v_g (g' := (mu ((un1 ((unN g f (g (26 + f) 8) (g (26 + f) 8 - 1 - x).toNat)) f ((unN g f (g (26 + f) 8) (g (26 + f) 8 - 1 - x).toNat) (46 + f) (x)) ((unN g f (g (26 + f) 8) (g (26 + f) 8 - 1 - x).toNat) (51 + f) (x)))) (26 + f) (8) (x))) rfl ?_
      refine v_iinc (z' := x - 1) (lv' := [(2, .int (iI (x - 1))), (0, .ref (a (26 + f))), (1, .int (iI (n)))]) C 0 dX1_undoFrom_37 rfl (by omega) (by decide) rfl ?_
      refine v_goto (tgt := 7) C dX1_undoFrom_40 (by decide) ?_
      exact v_g (by rw [show (g (26 + f) 8 - 1 - (x - 1)).toNat = (g (26 + f) 8 - 1 - x).toNat + 1 by omega]; show _ = mu _ _ _ _; rw [show g (26 + f) 8 - 1 - ((g (26 + f) 8 - 1 - x).toNat : Int) = x by omega]) (ih7 (x - 1) (by omega) (by omega))

set_option maxRecDepth 100000 in
set_option maxHeartbeats 4000000 in
theorem c_X4_undo (l : Launch) (D : va_G) (yc : Nat → ClassId) (t1 t2 : Nat) (a : Int → Nat) (A : Nat → Prop) (g : Mm) (n : Int) (F : Int → Int) (hn : R32 n) (HF : FR g 0 F) (HI : FI F) (HK : ∀ j, R32 (g (46 + 0) j) ∧ R32 (g (51 + 0) j)) : Ci l yX4_undo wsX4_undo { frames := 3, cells := 0, slots := 0, locals := 65 } D yc t1 t2 A (cw a yc) [.ref (a (0)), .int (iI (n))] g (fun r9 g' => r9 = (iI (if n < 0 ∨ F 4 < n then -1 else F 4 - n)) ∧ g' = (if n < 0 ∨ F 4 < n then g else unN g 0 (F 4) (F 4 - n).toNat)) := by
  refine start_i (cc := cX4_undo) (nL := 3) (ret := (some .int)) (own := RX4) (by decide +kernel) rfl rfl (Nat.le_of_ble_eq_true rfl) ?_
  intro p e s m9 below meth c9 C
  have wf21 : Cond.fieldLink RX4 21 (TX4 2).1 (TX4 2).2.1 (TX4 2).2.2.1 ∈ wsX4_undo := by decide +kernel
  have hinX4 : ∀ w ∈ u_ws RX4 TX4 10, w ∈ wsX4_undo := by decide +kernel
  have wf151 : Cond.fieldLink RX4 151 (TX1 8).1 (TX1 8).2.1 (TX1 8).2.2.1 ∈ wsX4_undo := by decide +kernel
  have hinX1 : ∀ w ∈ u_ws RX1 TX1 11, w ∈ wsX4_undo := by decide +kernel
  have hn := HI.n
  refine v_lv (lv' := [(0, .ref (a (0))), (1, .int (iI (n)))]) rfl ?_
  refine v_iload_n C 1 dX4_undo_0 rfl ?_
  refine v_iconst C dX4_undo_1 ?_
  refine v_aload_n C 0 dX4_undo_2 rfl ?_
  refine v_getf C (by omega) (by omega) ct_cow rfl 2 (by decide) wf21 hinX4 rfl dX4_undo_3 ?_
  refine v_st (st' := [.ref (a (26 + 0)), .int (iI (0)), .int (iI (n))]) rfl ?_
  refine v_getf C (by omega) (by omega) (ct_farm (by omega) (by omega)) rfl 8 (by decide) wf151 hinX1 rfl dX4_undo_6 ?_
  refine v_st (st' := [.int (iI (F 4)), .int (iI (0)), .int (iI (n))]) (by rw [HF.dc]) ?_
  refine v_cS_i C (As := [.int (iI (n)), .int (iI (0)), .int (iI (F 4))]) (rest := []) (c_X4_outside l D yc t1 t2 A (cw a yc) g n 0 (F 4) (by omega) (by omega) (by omega)) (va_cwS 3 C.hts gX4_undo_X4_outside rfl rfl rfl (by decide +kernel) ⟨by decide, by decide⟩) rfl rfl (Nat.le_of_ble_eq_true rfl) dX4_undo_9 ?_
  intro r9 g9 h9
  rw [h9.1, h9.2]
  clear h9 g9 r9
  try dsimp only
  refine v_ifb_eq (tgt := 17) C dX4_undo_12 (by decide) (fun c12 => ?_) (fun c12 => ?_)
  · skip
    refine v_aload_n C 0 dX4_undo_17 rfl ?_
    refine v_getf C (by omega) (by omega) ct_cow rfl 2 (by decide) wf21 hinX4 rfl dX4_undo_18 ?_
    refine v_st (st' := [.ref (a (26 + 0))]) rfl ?_
    refine v_getf C (by omega) (by omega) (ct_farm (by omega) (by omega)) rfl 8 (by decide) wf151 hinX1 rfl dX4_undo_21 ?_
    refine v_st (st' := [.int (iI (F 4))]) (by rw [HF.dc]) ?_
    refine v_iload_n C 1 dX4_undo_24 rfl ?_
    refine v_isub C dX4_undo_25 ?_
    refine v_istore_n (lv' := [(2, .int (iI ((F 4) - n))), (0, .ref (a (0))), (1, .int (iI (n)))]) C dX4_undo_26 (by decide) rfl ?_
    refine v_aload_n C 1 dX4_undo_27 rfl ?_
    refine v_getf C (by omega) (by omega) ct_cow rfl 2 (by decide) wf21 hinX4 rfl dX4_undo_28 ?_
    refine v_st (st' := [.ref (a (26 + 0))]) rfl ?_
    refine v_iload_n C 2 dX4_undo_31 rfl ?_
    refine v_cV_v C (As := [.int (iI (n))]) (rest := []) (c_X1_undoFrom_b l D yc t1 t2 a A g 0 n (by omega) (by rw [HF.dc]; omega) (by rw [HF.dc]; omega) HK) (cwV 1 C.hts gX4_undo_X1_undoFrom rfl rfl rfl (by decide +kernel) ⟨by decide, by decide⟩) (fun H hP => va_recv C.hK hP (ci := 1) (q0 := (26 + 0 : Int).toNat) rfl (wo_is (by omega) (by omega) (ct_farm (by omega) (by omega)))) rfl rfl (Nat.le_of_ble_eq_true rfl) dX4_undo_32 ?_
    intro g9 h9
    rw [h9]
    clear h9 g9
    try dsimp only
    refine v_g (g' := (unN g 0 (F 4) (F 4 - n).toNat)) (by rw [HF.dc]) ?_
    refine v_iload_n C 0 dX4_undo_35 rfl ?_
    exact v_ret_i C rfl dX4_undo_36 ⟨(by repeat (first | rfl | rw [if_pos (by omega)] | rw [if_neg (by omega)])), (by repeat (first | rfl | rw [if_pos (by omega)] | rw [if_neg (by omega)]))⟩
  · skip
    refine v_iconst C dX4_undo_15 ?_
    exact v_ret_i C rfl dX4_undo_16 ⟨(by repeat (first | rfl | rw [if_pos (by omega)] | rw [if_neg (by omega)])), (by repeat (first | rfl | rw [if_pos (by omega)] | rw [if_neg (by omega)]))⟩

set_option maxRecDepth 100000 in
set_option maxHeartbeats 4000000 in
theorem c_X4_howManyThere_r (l : Launch) (D : va_G) (yc : Nat → ClassId) (t1 t2 : Nat) (a : Int → Nat) (A : Nat → Prop) (g : Mm)  (HC : CI g) : Ci l yX4_howManyThere wsX4_howManyThere { frames := 1, cells := 0, slots := 0, locals := 20 } D yc t1 t2 A (cw a yc) [.ref (a (1))] g (fun r9 g' => r9 = (iI (sI (fun t => if g (6 + t) 1 < 0 then 0 else 1) 6)) ∧ g' = g) := by
  refine start_i (cc := cX4_howManyThere) (nL := 3) (ret := (some .int)) (own := RX4) (by decide +kernel) rfl rfl (Nat.le_of_ble_eq_true rfl) ?_
  intro p e s m9 below meth c9 C
  refine v_lv (lv' := [(0, .ref (a (1)))]) rfl ?_
  refine v_iconst C dX4_howManyThere_0 ?_
  refine v_istore_n (lv' := [(1, .int (iI (0))), (0, .ref (a (1)))]) C dX4_howManyThere_1 (by decide) rfl ?_
  refine v_iconst C dX4_howManyThere_2 ?_
  refine v_istore_n (lv' := [(2, .int (iI (0))), (1, .int (iI (0))), (0, .ref (a (1)))]) C dX4_howManyThere_3 (by decide) rfl ?_
  refine v_lv (congrArg (fun x9 => ([(2, .int (iI x9)), (1, .int (iI (0))), (0, .ref (a (1)))] : List (Nat × Value))) (show (0) = (((0 : Int))) by first | rfl | omega | (simp; done))) ?_
  refine v_lv (congrArg (fun x9 => ([(2, .int (iI (((0 : Int))))), (1, .int (iI x9)), (0, .ref (a (1)))] : List (Nat × Value))) (show (0) = (sI (fun t => if g (6 + t) 1 < 0 then 0 else 1) ((0 : Int))) by first | rfl | omega | (simp; done))) ?_
  refine v_loop1 (fun (y : Int) => (6 - y).toNat) (fun (y : Int) => 0 ≤ y ∧ y ≤ 6) (fun (y : Int) => [(2, .int (iI (y))), (1, .int (iI (sI (fun t => if g (6 + t) 1 < 0 then 0 else 1) y))), (0, .ref (a (1)))]) (fun (y : Int) => g) ?_ 0 (by omega)
  intro y hI4 ih4
  try dsimp only at ih4 ⊢
  refine v_iload_n C 0 dX4_howManyThere_4 rfl ?_
  refine v_aload_n C 2 dX4_howManyThere_5 rfl ?_
  refine v_alen C (by omega) (by omega) 4 rfl ct_rowsA dX4_howManyThere_6 ?_
  refine v_st (st' := [.int (iI (6)), .int (iI (y))]) rfl ?_
  refine v_icmp_ge (tgt := 28) C dX4_howManyThere_7 (by decide) (by omega) (by omega) (fun c7 => ?_) (fun c7 => ?_)
  · skip
    refine v_iload_n C 1 dX4_howManyThere_28 rfl ?_
    exact v_ret_i C rfl dX4_howManyThere_29 ⟨(by rw [show y = 6 by omega]), rfl⟩
  · skip
    refine v_aload_n C 2 dX4_howManyThere_10 rfl ?_
    refine v_iload_n C 0 dX4_howManyThere_11 rfl ?_
    refine v_aaload (f := fun j => 6 + j) C (by omega) (by omega) 4 rfl ct_rowsA (by omega) (by omega) (by decide) dX4_howManyThere_12 ?_
    have hz9 := HC.sz (r := y) (by omega) (by omega)
    refine v_cV_i C (As := []) (rest := []) (c_X3_isMissing l D yc t1 t2 a A g y (by omega) (by omega)) (cwV 0 C.hts gX4_howManyThere_X3_isMissing rfl rfl rfl (by decide +kernel) ⟨by decide, by decide⟩) (fun H hP => va_recv C.hK hP (ci := 3) (q0 := (6 + y : Int).toNat) rfl (wo_is (by omega) (by omega) (ct_row (by omega) (by omega)))) rfl rfl (Nat.le_of_ble_eq_true rfl) dX4_howManyThere_13 ?_
    intro r9 g9 h9
    rw [h9.1, h9.2]
    clear h9 g9 r9
    try dsimp only
    refine v_ifb_ne (tgt := 22) C dX4_howManyThere_16 (by decide) (fun c16 => ?_) (fun c16 => ?_)
    · skip
      refine v_iinc (z' := y + 1) (lv' := [(2, .int (iI (y + 1))), (1, .int (iI (sI (fun t => if g (6 + t) 1 < 0 then 0 else 1) y))), (0, .ref (a (1)))]) C 0 dX4_howManyThere_22 rfl (by omega) (by decide) rfl ?_
      refine v_goto (tgt := 4) C dX4_howManyThere_25 (by decide) ?_
      refine v_lv (congrArg (fun x9 => ([(2, .int (iI (y + 1))), (1, .int (iI x9)), (0, .ref (a (1)))] : List (Nat × Value))) (show (sI (fun t => if g (6 + t) 1 < 0 then 0 else 1) y) = (sI (fun t => if g (6 + t) 1 < 0 then 0 else 1) (y + 1)) by first | rfl | (rw [sI_s _ (by omega)]; (first | (rw [if_pos (by omega)]; omega) | (rw [if_neg (by omega)]))))) ?_
      exact ih4 (y + 1) (by omega) (by omega)
    · skip
      refine v_iinc (z' := sI (fun t => if g (6 + t) 1 < 0 then 0 else 1) y + 1) (lv' := [(1, .int (iI (sI (fun t => if g (6 + t) 1 < 0 then 0 else 1) y + 1))), (2, .int (iI (y))), (0, .ref (a (1)))]) C 1 dX4_howManyThere_19 rfl (by omega) (by decide) rfl ?_
      refine v_iinc (z' := y + 1) (lv' := [(2, .int (iI (y + 1))), (1, .int (iI (sI (fun t => if g (6 + t) 1 < 0 then 0 else 1) y + 1))), (0, .ref (a (1)))]) C 1 dX4_howManyThere_22 rfl (by omega) (by decide) rfl ?_
      refine v_goto (tgt := 4) C dX4_howManyThere_25 (by decide) ?_
      refine v_lv (congrArg (fun x9 => ([(2, .int (iI (y + 1))), (1, .int (iI x9)), (0, .ref (a (1)))] : List (Nat × Value))) (show (sI (fun t => if g (6 + t) 1 < 0 then 0 else 1) y + 1) = (sI (fun t => if g (6 + t) 1 < 0 then 0 else 1) (y + 1)) by first | rfl | (rw [sI_s _ (by omega)]; (first | (rw [if_pos (by omega)]; omega) | (rw [if_neg (by omega)]))))) ?_
      exact ih4 (y + 1) (by omega) (by omega)

set_option maxRecDepth 100000 in
set_option maxHeartbeats 4000000 in
theorem c_X4_howManyThere_t (l : Launch) (D : va_G) (yc : Nat → ClassId) (t1 t2 : Nat) (a : Int → Nat) (A : Nat → Prop) (g : Mm)  (HC : CI g) : Ci l yX4_howManyThere wsX4_howManyThere { frames := 1, cells := 0, slots := 0, locals := 20 } D yc t1 t2 A (cw a yc) [.ref (a (2))] g (fun r9 g' => r9 = (iI (sI (fun t => if g (6 + (6 + t)) 1 < 0 then 0 else 1) 4)) ∧ g' = g) := by
  refine start_i (cc := cX4_howManyThere) (nL := 3) (ret := (some .int)) (own := RX4) (by decide +kernel) rfl rfl (Nat.le_of_ble_eq_true rfl) ?_
  intro p e s m9 below meth c9 C
  refine v_lv (lv' := [(0, .ref (a (2)))]) rfl ?_
  refine v_iconst C dX4_howManyThere_0 ?_
  refine v_istore_n (lv' := [(1, .int (iI (0))), (0, .ref (a (2)))]) C dX4_howManyThere_1 (by decide) rfl ?_
  refine v_iconst C dX4_howManyThere_2 ?_
  refine v_istore_n (lv' := [(2, .int (iI (0))), (1, .int (iI (0))), (0, .ref (a (2)))]) C dX4_howManyThere_3 (by decide) rfl ?_
  refine v_lv (congrArg (fun x9 => ([(2, .int (iI x9)), (1, .int (iI (0))), (0, .ref (a (2)))] : List (Nat × Value))) (show (0) = (((0 : Int))) by first | rfl | omega | (simp; done))) ?_
  refine v_lv (congrArg (fun x9 => ([(2, .int (iI (((0 : Int))))), (1, .int (iI x9)), (0, .ref (a (2)))] : List (Nat × Value))) (show (0) = (sI (fun t => if g (6 + (6 + t)) 1 < 0 then 0 else 1) ((0 : Int))) by first | rfl | omega | (simp; done))) ?_
  refine v_loop1 (fun (y : Int) => (4 - y).toNat) (fun (y : Int) => 0 ≤ y ∧ y ≤ 4) (fun (y : Int) => [(2, .int (iI (y))), (1, .int (iI (sI (fun t => if g (6 + (6 + t)) 1 < 0 then 0 else 1) y))), (0, .ref (a (2)))]) (fun (y : Int) => g) ?_ 0 (by omega)
  intro y hI4 ih4
  try dsimp only at ih4 ⊢
  refine v_iload_n C 0 dX4_howManyThere_4 rfl ?_
  refine v_aload_n C 2 dX4_howManyThere_5 rfl ?_
  refine v_alen C (by omega) (by omega) 4 rfl ct_textsA dX4_howManyThere_6 ?_
  refine v_st (st' := [.int (iI (4)), .int (iI (y))]) rfl ?_
  refine v_icmp_ge (tgt := 28) C dX4_howManyThere_7 (by decide) (by omega) (by omega) (fun c7 => ?_) (fun c7 => ?_)
  · skip
    refine v_iload_n C 1 dX4_howManyThere_28 rfl ?_
    exact v_ret_i C rfl dX4_howManyThere_29 ⟨(by rw [show y = 4 by omega]), rfl⟩
  · skip
    refine v_aload_n C 2 dX4_howManyThere_10 rfl ?_
    refine v_iload_n C 0 dX4_howManyThere_11 rfl ?_
    refine v_aaload (f := fun j => 6 + (6 + j)) C (by omega) (by omega) 4 rfl ct_textsA (by omega) (by omega) (by decide) dX4_howManyThere_12 ?_
    have hz9 := HC.ln (t := y) (by omega) (by omega)
    refine v_cV_i C (As := []) (rest := []) (c_X3_isMissing l D yc t1 t2 a A g (6 + y) (by omega) (by omega)) (cwV 0 C.hts gX4_howManyThere_X3_isMissing rfl rfl rfl (by decide +kernel) ⟨by decide, by decide⟩) (fun H hP => va_recv C.hK hP (ci := 3) (q0 := (6 + (6 + y) : Int).toNat) rfl (wo_is (by omega) (by omega) (ct_row (by omega) (by omega)))) rfl rfl (Nat.le_of_ble_eq_true rfl) dX4_howManyThere_13 ?_
    intro r9 g9 h9
    rw [h9.1, h9.2]
    clear h9 g9 r9
    try dsimp only
    refine v_ifb_ne (tgt := 22) C dX4_howManyThere_16 (by decide) (fun c16 => ?_) (fun c16 => ?_)
    · skip
      refine v_iinc (z' := y + 1) (lv' := [(2, .int (iI (y + 1))), (1, .int (iI (sI (fun t => if g (6 + (6 + t)) 1 < 0 then 0 else 1) y))), (0, .ref (a (2)))]) C 0 dX4_howManyThere_22 rfl (by omega) (by decide) rfl ?_
      refine v_goto (tgt := 4) C dX4_howManyThere_25 (by decide) ?_
      refine v_lv (congrArg (fun x9 => ([(2, .int (iI (y + 1))), (1, .int (iI x9)), (0, .ref (a (2)))] : List (Nat × Value))) (show (sI (fun t => if g (6 + (6 + t)) 1 < 0 then 0 else 1) y) = (sI (fun t => if g (6 + (6 + t)) 1 < 0 then 0 else 1) (y + 1)) by first | rfl | (rw [sI_s _ (by omega)]; (first | (rw [if_pos (by omega)]; omega) | (rw [if_neg (by omega)]))))) ?_
      exact ih4 (y + 1) (by omega) (by omega)
    · skip
      refine v_iinc (z' := sI (fun t => if g (6 + (6 + t)) 1 < 0 then 0 else 1) y + 1) (lv' := [(1, .int (iI (sI (fun t => if g (6 + (6 + t)) 1 < 0 then 0 else 1) y + 1))), (2, .int (iI (y))), (0, .ref (a (2)))]) C 1 dX4_howManyThere_19 rfl (by omega) (by decide) rfl ?_
      refine v_iinc (z' := y + 1) (lv' := [(2, .int (iI (y + 1))), (1, .int (iI (sI (fun t => if g (6 + (6 + t)) 1 < 0 then 0 else 1) y + 1))), (0, .ref (a (2)))]) C 1 dX4_howManyThere_22 rfl (by omega) (by decide) rfl ?_
      refine v_goto (tgt := 4) C dX4_howManyThere_25 (by decide) ?_
      refine v_lv (congrArg (fun x9 => ([(2, .int (iI (y + 1))), (1, .int (iI x9)), (0, .ref (a (2)))] : List (Nat × Value))) (show (sI (fun t => if g (6 + (6 + t)) 1 < 0 then 0 else 1) y + 1) = (sI (fun t => if g (6 + (6 + t)) 1 < 0 then 0 else 1) (y + 1)) by first | rfl | (rw [sI_s _ (by omega)]; (first | (rw [if_pos (by omega)]; omega) | (rw [if_neg (by omega)]))))) ?_
      exact ih4 (y + 1) (by omega) (by omega)
